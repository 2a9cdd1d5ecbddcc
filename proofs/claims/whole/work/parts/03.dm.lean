theorem dX7_init_0 : decode cX7_init 0 = .ok (.aload_n 0, 1) := by decide +kernel
theorem dX7_init_1 : decode cX7_init 1 = .ok (.invokespecial 3, 3) := by decide +kernel
theorem dX7_init_4 : decode cX7_init 4 = .ok (.aload_n 0, 1) := by decide +kernel
theorem dX7_init_5 : decode cX7_init 5 = .ok (.sipush 382, 3) := by decide +kernel
theorem dX7_init_8 : decode cX7_init 8 = .ok (.newarray .int, 2) := by decide +kernel
theorem dX7_init_10 : decode cX7_init 10 = .ok (.putfield 9, 3) := by decide +kernel
theorem dX7_init_13 : decode cX7_init 13 = .ok (.aload_n 0, 1) := by decide +kernel
theorem dX7_init_14 : decode cX7_init 14 = .ok (.sipush 382, 3) := by decide +kernel
theorem dX7_init_17 : decode cX7_init 17 = .ok (.newarray .int, 2) := by decide +kernel
theorem dX7_init_19 : decode cX7_init 19 = .ok (.putfield 13, 3) := by decide +kernel
theorem dX7_init_22 : decode cX7_init 22 = .ok (.aload_n 0, 1) := by decide +kernel
theorem dX7_init_23 : decode cX7_init 23 = .ok (.sipush 382, 3) := by decide +kernel
theorem dX7_init_26 : decode cX7_init 26 = .ok (.newarray .int, 2) := by decide +kernel
theorem dX7_init_28 : decode cX7_init 28 = .ok (.putfield 16, 3) := by decide +kernel
theorem dX7_init_31 : decode cX7_init 31 = .ok (.aload_n 0, 1) := by decide +kernel
theorem dX7_init_32 : decode cX7_init 32 = .ok (.bipush 7, 2) := by decide +kernel
theorem dX7_init_34 : decode cX7_init 34 = .ok (.newarray .int, 2) := by decide +kernel
theorem dX7_init_36 : decode cX7_init 36 = .ok (.putfield 19, 3) := by decide +kernel
theorem dX7_init_39 : decode cX7_init 39 = .ok (.aload_n 0, 1) := by decide +kernel
theorem dX7_init_40 : decode cX7_init 40 = .ok (.iconst 4, 1) := by decide +kernel
theorem dX7_init_41 : decode cX7_init 41 = .ok (.newarray .int, 2) := by decide +kernel
theorem dX7_init_43 : decode cX7_init 43 = .ok (.putfield 22, 3) := by decide +kernel
theorem dX7_init_46 : decode cX7_init 46 = .ok (.aload_n 0, 1) := by decide +kernel
theorem dX7_init_47 : decode cX7_init 47 = .ok (.iconst 4, 1) := by decide +kernel
theorem dX7_init_48 : decode cX7_init 48 = .ok (.newarray .int, 2) := by decide +kernel
theorem dX7_init_50 : decode cX7_init 50 = .ok (.putfield 25, 3) := by decide +kernel
theorem dX7_init_53 : decode cX7_init 53 = .ok (.aload_n 0, 1) := by decide +kernel
theorem dX7_init_54 : decode cX7_init 54 = .ok (.bipush 96, 2) := by decide +kernel
theorem dX7_init_56 : decode cX7_init 56 = .ok (.newarray .int, 2) := by decide +kernel
theorem dX7_init_58 : decode cX7_init 58 = .ok (.putfield 28, 3) := by decide +kernel
theorem dX7_init_61 : decode cX7_init 61 = .ok (.aload_n 0, 1) := by decide +kernel
theorem dX7_init_62 : decode cX7_init 62 = .ok (.bipush 16, 2) := by decide +kernel
theorem dX7_init_64 : decode cX7_init 64 = .ok (.newarray .long, 2) := by decide +kernel
theorem dX7_init_66 : decode cX7_init 66 = .ok (.putfield 31, 3) := by decide +kernel
theorem dX7_init_69 : decode cX7_init 69 = .ok (.aload_n 0, 1) := by decide +kernel
theorem dX7_init_70 : decode cX7_init 70 = .ok (.iconst 4, 1) := by decide +kernel
theorem dX7_init_71 : decode cX7_init 71 = .ok (.newarray .long, 2) := by decide +kernel
theorem dX7_init_73 : decode cX7_init 73 = .ok (.putfield 35, 3) := by decide +kernel
theorem dX7_init_76 : decode cX7_init 76 = .ok (.aload_n 0, 1) := by decide +kernel
theorem dX7_init_77 : decode cX7_init 77 = .ok (.iconst 4, 1) := by decide +kernel
theorem dX7_init_78 : decode cX7_init 78 = .ok (.newarray .long, 2) := by decide +kernel
theorem dX7_init_80 : decode cX7_init 80 = .ok (.putfield 38, 3) := by decide +kernel
theorem dX7_init_83 : decode cX7_init 83 = .ok (.aload_n 0, 1) := by decide +kernel
theorem dX7_init_84 : decode cX7_init 84 = .ok (.bipush 60, 2) := by decide +kernel
theorem dX7_init_86 : decode cX7_init 86 = .ok (.newarray .int, 2) := by decide +kernel
theorem dX7_init_88 : decode cX7_init 88 = .ok (.putfield 41, 3) := by decide +kernel
theorem dX7_init_91 : decode cX7_init 91 = .ok (.aload_n 0, 1) := by decide +kernel
theorem dX7_init_92 : decode cX7_init 92 = .ok (.bipush 60, 2) := by decide +kernel
theorem dX7_init_94 : decode cX7_init 94 = .ok (.newarray .int, 2) := by decide +kernel
theorem dX7_init_96 : decode cX7_init 96 = .ok (.putfield 44, 3) := by decide +kernel
theorem dX7_init_99 : decode cX7_init 99 = .ok (.aload_n 0, 1) := by decide +kernel
theorem dX7_init_100 : decode cX7_init 100 = .ok (.iconst 3, 1) := by decide +kernel
theorem dX7_init_101 : decode cX7_init 101 = .ok (.newarray .int, 2) := by decide +kernel
theorem dX7_init_103 : decode cX7_init 103 = .ok (.putfield 47, 3) := by decide +kernel
theorem dX7_init_106 : decode cX7_init 106 = .ok (.aload_n 0, 1) := by decide +kernel
theorem dX7_init_107 : decode cX7_init 107 = .ok (.bipush 60, 2) := by decide +kernel
theorem dX7_init_109 : decode cX7_init 109 = .ok (.newarray .int, 2) := by decide +kernel
theorem dX7_init_111 : decode cX7_init 111 = .ok (.putfield 50, 3) := by decide +kernel
theorem dX7_init_114 : decode cX7_init 114 = .ok (.aload_n 0, 1) := by decide +kernel
theorem dX7_init_115 : decode cX7_init 115 = .ok (.bipush 30, 2) := by decide +kernel
theorem dX7_init_117 : decode cX7_init 117 = .ok (.newarray .int, 2) := by decide +kernel
theorem dX7_init_119 : decode cX7_init 119 = .ok (.putfield 53, 3) := by decide +kernel
theorem dX7_init_122 : decode cX7_init 122 = .ok (.aload_n 0, 1) := by decide +kernel
theorem dX7_init_123 : decode cX7_init 123 = .ok (.getfield 9, 3) := by decide +kernel
theorem dX7_init_126 : decode cX7_init 126 = .ok (.iconst 1, 1) := by decide +kernel
theorem dX7_init_127 : decode cX7_init 127 = .ok (.iconst 1, 1) := by decide +kernel
theorem dX7_init_128 : decode cX7_init 128 = .ok (.iastore, 1) := by decide +kernel
theorem dX7_init_129 : decode cX7_init 129 = .ok (.aload_n 0, 1) := by decide +kernel
theorem dX7_init_130 : decode cX7_init 130 = .ok (.getfield 9, 3) := by decide +kernel
theorem dX7_init_133 : decode cX7_init 133 = .ok (.iconst 3, 1) := by decide +kernel
theorem dX7_init_134 : decode cX7_init 134 = .ok (.iconst 2, 1) := by decide +kernel
theorem dX7_init_135 : decode cX7_init 135 = .ok (.iastore, 1) := by decide +kernel
theorem dX7_init_136 : decode cX7_init 136 = .ok (.aload_n 0, 1) := by decide +kernel
theorem dX7_init_137 : decode cX7_init 137 = .ok (.getfield 9, 3) := by decide +kernel
theorem dX7_init_140 : decode cX7_init 140 = .ok (.iconst 4, 1) := by decide +kernel
theorem dX7_init_141 : decode cX7_init 141 = .ok (.bipush 20, 2) := by decide +kernel
theorem dX7_init_143 : decode cX7_init 143 = .ok (.iastore, 1) := by decide +kernel
theorem dX7_init_144 : decode cX7_init 144 = .ok (.return_, 1) := by decide +kernel
theorem dX7_error_0 : decode cX7_error 0 = .ok (.aload_n 0, 1) := by decide +kernel
theorem dX7_error_1 : decode cX7_error 1 = .ok (.getfield 19, 3) := by decide +kernel
theorem dX7_error_4 : decode cX7_error 4 = .ok (.ldc 56, 2) := by decide +kernel
theorem dX7_error_6 : decode cX7_error 6 = .ok (.iload_n 1, 1) := by decide +kernel
theorem dX7_error_7 : decode cX7_error 7 = .ok (.isub, 1) := by decide +kernel
theorem dX7_error_8 : decode cX7_error 8 = .ok (.dup2, 1) := by decide +kernel
theorem dX7_error_9 : decode cX7_error 9 = .ok (.iaload, 1) := by decide +kernel
theorem dX7_error_10 : decode cX7_error 10 = .ok (.iconst 1, 1) := by decide +kernel
theorem dX7_error_11 : decode cX7_error 11 = .ok (.iadd, 1) := by decide +kernel
theorem dX7_error_12 : decode cX7_error 12 = .ok (.iastore, 1) := by decide +kernel
theorem dX7_error_13 : decode cX7_error 13 = .ok (.iload_n 1, 1) := by decide +kernel
theorem dX7_error_14 : decode cX7_error 14 = .ok (.ireturn, 1) := by decide +kernel
theorem dX7_in_0 : decode cX7_in 0 = .ok (.iload_n 0, 1) := by decide +kernel
theorem dX7_in_1 : decode cX7_in 1 = .ok (.iload_n 1, 1) := by decide +kernel
theorem dX7_in_2 : decode cX7_in 2 = .ok (.if_icmp .lt 12, 3) := by decide +kernel
theorem dX7_in_5 : decode cX7_in 5 = .ok (.iload_n 0, 1) := by decide +kernel
theorem dX7_in_6 : decode cX7_in 6 = .ok (.iload_n 2, 1) := by decide +kernel
theorem dX7_in_7 : decode cX7_in 7 = .ok (.if_icmp .gt 7, 3) := by decide +kernel
theorem dX7_in_10 : decode cX7_in 10 = .ok (.iconst 1, 1) := by decide +kernel
theorem dX7_in_11 : decode cX7_in 11 = .ok (.goto 4, 3) := by decide +kernel
theorem dX7_in_14 : decode cX7_in 14 = .ok (.iconst 0, 1) := by decide +kernel
theorem dX7_in_15 : decode cX7_in 15 = .ok (.ireturn, 1) := by decide +kernel
theorem dX7_held_0 : decode cX7_held 0 = .ok (.iload_n 0, 1) := by decide +kernel
theorem dX7_held_1 : decode cX7_held 1 = .ok (.iload_n 1, 1) := by decide +kernel
theorem dX7_held_2 : decode cX7_held 2 = .ok (.if_icmp .ge 7, 3) := by decide +kernel
theorem dX7_held_5 : decode cX7_held 5 = .ok (.iload_n 1, 1) := by decide +kernel
theorem dX7_held_6 : decode cX7_held 6 = .ok (.goto 13, 3) := by decide +kernel
theorem dX7_held_9 : decode cX7_held 9 = .ok (.iload_n 0, 1) := by decide +kernel
theorem dX7_held_10 : decode cX7_held 10 = .ok (.iload_n 2, 1) := by decide +kernel
theorem dX7_held_11 : decode cX7_held 11 = .ok (.if_icmp .le 7, 3) := by decide +kernel
theorem dX7_held_14 : decode cX7_held 14 = .ok (.iload_n 2, 1) := by decide +kernel
theorem dX7_held_15 : decode cX7_held 15 = .ok (.goto 4, 3) := by decide +kernel
theorem dX7_held_18 : decode cX7_held 18 = .ok (.iload_n 0, 1) := by decide +kernel
theorem dX7_held_19 : decode cX7_held 19 = .ok (.ireturn, 1) := by decide +kernel
theorem dX7_copyAll_0 : decode cX7_copyAll 0 = .ok (.iconst 0, 1) := by decide +kernel
theorem dX7_copyAll_1 : decode cX7_copyAll 1 = .ok (.istore_n 2, 1) := by decide +kernel
theorem dX7_copyAll_2 : decode cX7_copyAll 2 = .ok (.iload_n 2, 1) := by decide +kernel
theorem dX7_copyAll_3 : decode cX7_copyAll 3 = .ok (.sipush 382, 3) := by decide +kernel
theorem dX7_copyAll_6 : decode cX7_copyAll 6 = .ok (.if_icmp .ge 15, 3) := by decide +kernel
theorem dX7_copyAll_9 : decode cX7_copyAll 9 = .ok (.aload_n 1, 1) := by decide +kernel
theorem dX7_copyAll_10 : decode cX7_copyAll 10 = .ok (.iload_n 2, 1) := by decide +kernel
theorem dX7_copyAll_11 : decode cX7_copyAll 11 = .ok (.aload_n 0, 1) := by decide +kernel
theorem dX7_copyAll_12 : decode cX7_copyAll 12 = .ok (.iload_n 2, 1) := by decide +kernel
theorem dX7_copyAll_13 : decode cX7_copyAll 13 = .ok (.iaload, 1) := by decide +kernel
theorem dX7_copyAll_14 : decode cX7_copyAll 14 = .ok (.iastore, 1) := by decide +kernel
theorem dX7_copyAll_15 : decode cX7_copyAll 15 = .ok (.iinc 2 1, 3) := by decide +kernel
theorem dX7_copyAll_18 : decode cX7_copyAll 18 = .ok (.goto (-16), 3) := by decide +kernel
theorem dX7_copyAll_21 : decode cX7_copyAll 21 = .ok (.return_, 1) := by decide +kernel
theorem dX7_thinks_0 : decode cX7_thinks 0 = .ok (.aload_n 0, 1) := by decide +kernel
theorem dX7_thinks_1 : decode cX7_thinks 1 = .ok (.getfield 9, 3) := by decide +kernel
theorem dX7_thinks_4 : decode cX7_thinks 4 = .ok (.aload_n 0, 1) := by decide +kernel
theorem dX7_thinks_5 : decode cX7_thinks 5 = .ok (.getfield 16, 3) := by decide +kernel
theorem dX7_thinks_8 : decode cX7_thinks 8 = .ok (.invokestatic 57, 3) := by decide +kernel
theorem dX7_thinks_11 : decode cX7_thinks 11 = .ok (.return_, 1) := by decide +kernel
theorem dX7_putsBack_0 : decode cX7_putsBack 0 = .ok (.aload_n 0, 1) := by decide +kernel
theorem dX7_putsBack_1 : decode cX7_putsBack 1 = .ok (.getfield 16, 3) := by decide +kernel
theorem dX7_putsBack_4 : decode cX7_putsBack 4 = .ok (.aload_n 0, 1) := by decide +kernel
theorem dX7_putsBack_5 : decode cX7_putsBack 5 = .ok (.getfield 9, 3) := by decide +kernel
theorem dX7_putsBack_8 : decode cX7_putsBack 8 = .ok (.invokestatic 57, 3) := by decide +kernel
theorem dX7_putsBack_11 : decode cX7_putsBack 11 = .ok (.return_, 1) := by decide +kernel
theorem dX7_bits_0 : decode cX7_bits 0 = .ok (.iconst 0, 1) := by decide +kernel
theorem dX7_bits_1 : decode cX7_bits 1 = .ok (.istore_n 1, 1) := by decide +kernel
theorem dX7_bits_2 : decode cX7_bits 2 = .ok (.iload_n 0, 1) := by decide +kernel
theorem dX7_bits_3 : decode cX7_bits 3 = .ok (.istore_n 2, 1) := by decide +kernel
theorem dX7_bits_4 : decode cX7_bits 4 = .ok (.iload_n 2, 1) := by decide +kernel
theorem dX7_bits_5 : decode cX7_bits 5 = .ok (.ifCond .eq 15, 3) := by decide +kernel
theorem dX7_bits_8 : decode cX7_bits 8 = .ok (.iinc 1 1, 3) := by decide +kernel
theorem dX7_bits_11 : decode cX7_bits 11 = .ok (.iload_n 2, 1) := by decide +kernel
theorem dX7_bits_12 : decode cX7_bits 12 = .ok (.iload_n 2, 1) := by decide +kernel
theorem dX7_bits_13 : decode cX7_bits 13 = .ok (.iconst 1, 1) := by decide +kernel
theorem dX7_bits_14 : decode cX7_bits 14 = .ok (.isub, 1) := by decide +kernel
theorem dX7_bits_15 : decode cX7_bits 15 = .ok (.iand, 1) := by decide +kernel
theorem dX7_bits_16 : decode cX7_bits 16 = .ok (.istore_n 2, 1) := by decide +kernel
theorem dX7_bits_17 : decode cX7_bits 17 = .ok (.goto (-13), 3) := by decide +kernel
theorem dX7_bits_20 : decode cX7_bits 20 = .ok (.iload_n 1, 1) := by decide +kernel
theorem dX7_bits_21 : decode cX7_bits 21 = .ok (.ireturn, 1) := by decide +kernel
theorem dX7_isMark_0 : decode cX7_isMark 0 = .ok (.iload_n 1, 1) := by decide +kernel
theorem dX7_isMark_1 : decode cX7_isMark 1 = .ok (.iconst 0, 1) := by decide +kernel
theorem dX7_isMark_2 : decode cX7_isMark 2 = .ok (.aload_n 0, 1) := by decide +kernel
theorem dX7_isMark_3 : decode cX7_isMark 3 = .ok (.getfield 9, 3) := by decide +kernel
theorem dX7_isMark_6 : decode cX7_isMark 6 = .ok (.iconst 2, 1) := by decide +kernel
theorem dX7_isMark_7 : decode cX7_isMark 7 = .ok (.iaload, 1) := by decide +kernel
theorem dX7_isMark_8 : decode cX7_isMark 8 = .ok (.iconst 1, 1) := by decide +kernel
theorem dX7_isMark_9 : decode cX7_isMark 9 = .ok (.isub, 1) := by decide +kernel
theorem dX7_isMark_10 : decode cX7_isMark 10 = .ok (.invokestatic 61, 3) := by decide +kernel
theorem dX7_isMark_13 : decode cX7_isMark 13 = .ok (.ireturn, 1) := by decide +kernel
theorem dX7_isPicture_0 : decode cX7_isPicture 0 = .ok (.iload_n 1, 1) := by decide +kernel
theorem dX7_isPicture_1 : decode cX7_isPicture 1 = .ok (.iconst 0, 1) := by decide +kernel
theorem dX7_isPicture_2 : decode cX7_isPicture 2 = .ok (.aload_n 0, 1) := by decide +kernel
theorem dX7_isPicture_3 : decode cX7_isPicture 3 = .ok (.getfield 9, 3) := by decide +kernel
theorem dX7_isPicture_6 : decode cX7_isPicture 6 = .ok (.iconst 3, 1) := by decide +kernel
theorem dX7_isPicture_7 : decode cX7_isPicture 7 = .ok (.iaload, 1) := by decide +kernel
theorem dX7_isPicture_8 : decode cX7_isPicture 8 = .ok (.iconst 1, 1) := by decide +kernel
theorem dX7_isPicture_9 : decode cX7_isPicture 9 = .ok (.isub, 1) := by decide +kernel
theorem dX7_isPicture_10 : decode cX7_isPicture 10 = .ok (.invokestatic 61, 3) := by decide +kernel
theorem dX7_isPicture_13 : decode cX7_isPicture 13 = .ok (.ireturn, 1) := by decide +kernel
theorem dX7_becomes_0 : decode cX7_becomes 0 = .ok (.aload_n 0, 1) := by decide +kernel
theorem dX7_becomes_1 : decode cX7_becomes 1 = .ok (.getfield 9, 3) := by decide +kernel
theorem dX7_becomes_4 : decode cX7_becomes 4 = .ok (.iload_n 1, 1) := by decide +kernel
theorem dX7_becomes_5 : decode cX7_becomes 5 = .ok (.iaload, 1) := by decide +kernel
theorem dX7_becomes_6 : decode cX7_becomes 6 = .ok (.istore_n 3, 1) := by decide +kernel
theorem dX7_becomes_7 : decode cX7_becomes 7 = .ok (.aload_n 0, 1) := by decide +kernel
theorem dX7_becomes_8 : decode cX7_becomes 8 = .ok (.getfield 9, 3) := by decide +kernel
theorem dX7_becomes_11 : decode cX7_becomes 11 = .ok (.iload_n 1, 1) := by decide +kernel
theorem dX7_becomes_12 : decode cX7_becomes 12 = .ok (.iload_n 2, 1) := by decide +kernel
theorem dX7_becomes_13 : decode cX7_becomes 13 = .ok (.iastore, 1) := by decide +kernel
theorem dX7_becomes_14 : decode cX7_becomes 14 = .ok (.iload_n 3, 1) := by decide +kernel
theorem dX7_becomes_15 : decode cX7_becomes 15 = .ok (.ireturn, 1) := by decide +kernel
theorem dX7_of_0 : decode cX7_of 0 = .ok (.aload_n 0, 1) := by decide +kernel
theorem dX7_of_1 : decode cX7_of 1 = .ok (.getfield 9, 3) := by decide +kernel
theorem dX7_of_4 : decode cX7_of 4 = .ok (.bipush 8, 2) := by decide +kernel
theorem dX7_of_6 : decode cX7_of 6 = .ok (.bipush 6, 2) := by decide +kernel
theorem dX7_of_8 : decode cX7_of 8 = .ok (.iload_n 1, 1) := by decide +kernel
theorem dX7_of_9 : decode cX7_of 9 = .ok (.imul, 1) := by decide +kernel
theorem dX7_of_10 : decode cX7_of 10 = .ok (.iadd, 1) := by decide +kernel
theorem dX7_of_11 : decode cX7_of 11 = .ok (.iload_n 2, 1) := by decide +kernel
theorem dX7_of_12 : decode cX7_of 12 = .ok (.iadd, 1) := by decide +kernel
theorem dX7_of_13 : decode cX7_of 13 = .ok (.iaload, 1) := by decide +kernel
theorem dX7_of_14 : decode cX7_of 14 = .ok (.ireturn, 1) := by decide +kernel
theorem dX7_puts_0 : decode cX7_puts 0 = .ok (.aload_n 0, 1) := by decide +kernel
theorem dX7_puts_1 : decode cX7_puts 1 = .ok (.getfield 9, 3) := by decide +kernel
theorem dX7_puts_4 : decode cX7_puts 4 = .ok (.bipush 8, 2) := by decide +kernel
theorem dX7_puts_6 : decode cX7_puts 6 = .ok (.bipush 6, 2) := by decide +kernel
theorem dX7_puts_8 : decode cX7_puts 8 = .ok (.iload_n 1, 1) := by decide +kernel
theorem dX7_puts_9 : decode cX7_puts 9 = .ok (.imul, 1) := by decide +kernel
theorem dX7_puts_10 : decode cX7_puts 10 = .ok (.iadd, 1) := by decide +kernel
theorem dX7_puts_11 : decode cX7_puts 11 = .ok (.iload_n 2, 1) := by decide +kernel
theorem dX7_puts_12 : decode cX7_puts 12 = .ok (.iadd, 1) := by decide +kernel
theorem dX7_puts_13 : decode cX7_puts 13 = .ok (.iload_n 3, 1) := by decide +kernel
theorem dX7_puts_14 : decode cX7_puts 14 = .ok (.iastore, 1) := by decide +kernel
theorem dX7_puts_15 : decode cX7_puts 15 = .ok (.return_, 1) := by decide +kernel
theorem dX7_onOnes_0 : decode cX7_onOnes 0 = .ok (.iconst 0, 1) := by decide +kernel
theorem dX7_onOnes_1 : decode cX7_onOnes 1 = .ok (.istore_n 1, 1) := by decide +kernel
theorem dX7_onOnes_2 : decode cX7_onOnes 2 = .ok (.iconst 0, 1) := by decide +kernel
theorem dX7_onOnes_3 : decode cX7_onOnes 3 = .ok (.istore_n 2, 1) := by decide +kernel
theorem dX7_onOnes_4 : decode cX7_onOnes 4 = .ok (.iload_n 2, 1) := by decide +kernel
theorem dX7_onOnes_5 : decode cX7_onOnes 5 = .ok (.aload_n 0, 1) := by decide +kernel
theorem dX7_onOnes_6 : decode cX7_onOnes 6 = .ok (.getfield 9, 3) := by decide +kernel
theorem dX7_onOnes_9 : decode cX7_onOnes 9 = .ok (.iconst 2, 1) := by decide +kernel
theorem dX7_onOnes_10 : decode cX7_onOnes 10 = .ok (.iaload, 1) := by decide +kernel
theorem dX7_onOnes_11 : decode cX7_onOnes 11 = .ok (.if_icmp .ge 20, 3) := by decide +kernel
theorem dX7_onOnes_14 : decode cX7_onOnes 14 = .ok (.iload_n 1, 1) := by decide +kernel
theorem dX7_onOnes_15 : decode cX7_onOnes 15 = .ok (.aload_n 0, 1) := by decide +kernel
theorem dX7_onOnes_16 : decode cX7_onOnes 16 = .ok (.iload_n 2, 1) := by decide +kernel
theorem dX7_onOnes_17 : decode cX7_onOnes 17 = .ok (.iconst 5, 1) := by decide +kernel
theorem dX7_onOnes_18 : decode cX7_onOnes 18 = .ok (.invokevirtual 65, 3) := by decide +kernel
theorem dX7_onOnes_21 : decode cX7_onOnes 21 = .ok (.iload_n 2, 1) := by decide +kernel
theorem dX7_onOnes_22 : decode cX7_onOnes 22 = .ok (.ishl, 1) := by decide +kernel
theorem dX7_onOnes_23 : decode cX7_onOnes 23 = .ok (.ior, 1) := by decide +kernel
theorem dX7_onOnes_24 : decode cX7_onOnes 24 = .ok (.istore_n 1, 1) := by decide +kernel
theorem dX7_onOnes_25 : decode cX7_onOnes 25 = .ok (.iinc 2 1, 3) := by decide +kernel
theorem dX7_onOnes_28 : decode cX7_onOnes 28 = .ok (.goto (-24), 3) := by decide +kernel
theorem dX7_onOnes_31 : decode cX7_onOnes 31 = .ok (.iload_n 1, 1) := by decide +kernel
theorem dX7_onOnes_32 : decode cX7_onOnes 32 = .ok (.ireturn, 1) := by decide +kernel
theorem dX7_touching_0 : decode cX7_touching 0 = .ok (.iconst 0, 1) := by decide +kernel
theorem dX7_touching_1 : decode cX7_touching 1 = .ok (.istore_n 2, 1) := by decide +kernel
theorem dX7_touching_2 : decode cX7_touching 2 = .ok (.iconst 0, 1) := by decide +kernel
theorem dX7_touching_3 : decode cX7_touching 3 = .ok (.istore_n 3, 1) := by decide +kernel
theorem dX7_touching_4 : decode cX7_touching 4 = .ok (.iload_n 3, 1) := by decide +kernel
theorem dX7_touching_5 : decode cX7_touching 5 = .ok (.aload_n 0, 1) := by decide +kernel
theorem dX7_touching_6 : decode cX7_touching 6 = .ok (.getfield 9, 3) := by decide +kernel
theorem dX7_touching_9 : decode cX7_touching 9 = .ok (.iconst 2, 1) := by decide +kernel
theorem dX7_touching_10 : decode cX7_touching 10 = .ok (.iaload, 1) := by decide +kernel
theorem dX7_touching_11 : decode cX7_touching 11 = .ok (.if_icmp .ge 69, 3) := by decide +kernel
theorem dX7_touching_14 : decode cX7_touching 14 = .ok (.aload_n 0, 1) := by decide +kernel
theorem dX7_touching_15 : decode cX7_touching 15 = .ok (.iload_n 3, 1) := by decide +kernel
theorem dX7_touching_16 : decode cX7_touching 16 = .ok (.iconst 2, 1) := by decide +kernel
theorem dX7_touching_17 : decode cX7_touching 17 = .ok (.invokevirtual 65, 3) := by decide +kernel
theorem dX7_touching_20 : decode cX7_touching 20 = .ok (.aload_n 0, 1) := by decide +kernel
theorem dX7_touching_21 : decode cX7_touching 21 = .ok (.iload_n 1, 1) := by decide +kernel
theorem dX7_touching_22 : decode cX7_touching 22 = .ok (.iconst 3, 1) := by decide +kernel
theorem dX7_touching_23 : decode cX7_touching 23 = .ok (.invokevirtual 65, 3) := by decide +kernel
theorem dX7_touching_26 : decode cX7_touching 26 = .ok (.if_icmp .eq 18, 3) := by decide +kernel
theorem dX7_touching_29 : decode cX7_touching 29 = .ok (.aload_n 0, 1) := by decide +kernel
theorem dX7_touching_30 : decode cX7_touching 30 = .ok (.iload_n 3, 1) := by decide +kernel
theorem dX7_touching_31 : decode cX7_touching 31 = .ok (.iconst 3, 1) := by decide +kernel
theorem dX7_touching_32 : decode cX7_touching 32 = .ok (.invokevirtual 65, 3) := by decide +kernel
theorem dX7_touching_35 : decode cX7_touching 35 = .ok (.aload_n 0, 1) := by decide +kernel
theorem dX7_touching_36 : decode cX7_touching 36 = .ok (.iload_n 1, 1) := by decide +kernel
theorem dX7_touching_37 : decode cX7_touching 37 = .ok (.iconst 3, 1) := by decide +kernel
theorem dX7_touching_38 : decode cX7_touching 38 = .ok (.invokevirtual 65, 3) := by decide +kernel
theorem dX7_touching_41 : decode cX7_touching 41 = .ok (.if_icmp .ne 7, 3) := by decide +kernel
theorem dX7_touching_44 : decode cX7_touching 44 = .ok (.iconst 1, 1) := by decide +kernel
theorem dX7_touching_45 : decode cX7_touching 45 = .ok (.goto 4, 3) := by decide +kernel
theorem dX7_touching_48 : decode cX7_touching 48 = .ok (.iconst 0, 1) := by decide +kernel
theorem dX7_touching_49 : decode cX7_touching 49 = .ok (.istore 4, 2) := by decide +kernel
theorem dX7_touching_51 : decode cX7_touching 51 = .ok (.iload_n 2, 1) := by decide +kernel
theorem dX7_touching_52 : decode cX7_touching 52 = .ok (.iload 4, 2) := by decide +kernel
theorem dX7_touching_54 : decode cX7_touching 54 = .ok (.ifCond .eq 17, 3) := by decide +kernel
theorem dX7_touching_57 : decode cX7_touching 57 = .ok (.aload_n 0, 1) := by decide +kernel
theorem dX7_touching_58 : decode cX7_touching 58 = .ok (.iload_n 3, 1) := by decide +kernel
theorem dX7_touching_59 : decode cX7_touching 59 = .ok (.iconst 5, 1) := by decide +kernel
theorem dX7_touching_60 : decode cX7_touching 60 = .ok (.invokevirtual 65, 3) := by decide +kernel
theorem dX7_touching_63 : decode cX7_touching 63 = .ok (.iconst 1, 1) := by decide +kernel
theorem dX7_touching_64 : decode cX7_touching 64 = .ok (.if_icmp .ne 7, 3) := by decide +kernel
theorem dX7_touching_67 : decode cX7_touching 67 = .ok (.iconst 1, 1) := by decide +kernel
theorem dX7_touching_68 : decode cX7_touching 68 = .ok (.goto 4, 3) := by decide +kernel
theorem dX7_touching_71 : decode cX7_touching 71 = .ok (.iconst 0, 1) := by decide +kernel
theorem dX7_touching_72 : decode cX7_touching 72 = .ok (.iadd, 1) := by decide +kernel
theorem dX7_touching_73 : decode cX7_touching 73 = .ok (.istore_n 2, 1) := by decide +kernel
theorem dX7_touching_74 : decode cX7_touching 74 = .ok (.iinc 3 1, 3) := by decide +kernel
theorem dX7_touching_77 : decode cX7_touching 77 = .ok (.goto (-73), 3) := by decide +kernel
theorem dX7_touching_80 : decode cX7_touching 80 = .ok (.iload_n 2, 1) := by decide +kernel
theorem dX7_touching_81 : decode cX7_touching 81 = .ok (.ireturn, 1) := by decide +kernel
theorem dX7_weighsBy_0 : decode cX7_weighsBy 0 = .ok (.aload_n 0, 1) := by decide +kernel
theorem dX7_weighsBy_1 : decode cX7_weighsBy 1 = .ok (.iload_n 1, 1) := by decide +kernel
theorem dX7_weighsBy_2 : decode cX7_weighsBy 2 = .ok (.invokevirtual 69, 3) := by decide +kernel
theorem dX7_weighsBy_5 : decode cX7_weighsBy 5 = .ok (.iconst 3, 1) := by decide +kernel
theorem dX7_weighsBy_6 : decode cX7_weighsBy 6 = .ok (.if_icmp .le 7, 3) := by decide +kernel
theorem dX7_weighsBy_9 : decode cX7_weighsBy 9 = .ok (.iconst 1, 1) := by decide +kernel
theorem dX7_weighsBy_10 : decode cX7_weighsBy 10 = .ok (.goto 4, 3) := by decide +kernel
theorem dX7_weighsBy_13 : decode cX7_weighsBy 13 = .ok (.iconst 3, 1) := by decide +kernel
theorem dX7_weighsBy_14 : decode cX7_weighsBy 14 = .ok (.istore_n 2, 1) := by decide +kernel
theorem dX7_weighsBy_15 : decode cX7_weighsBy 15 = .ok (.aload_n 0, 1) := by decide +kernel
theorem dX7_weighsBy_16 : decode cX7_weighsBy 16 = .ok (.iload_n 1, 1) := by decide +kernel
theorem dX7_weighsBy_17 : decode cX7_weighsBy 17 = .ok (.iconst 0, 1) := by decide +kernel
theorem dX7_weighsBy_18 : decode cX7_weighsBy 18 = .ok (.invokevirtual 65, 3) := by decide +kernel
theorem dX7_weighsBy_21 : decode cX7_weighsBy 21 = .ok (.tableswitch 82 1 6 #[39, 41, 43, 59, 76, 80], 39) := by decide +kernel
theorem dX7_weighsBy_60 : decode cX7_weighsBy 60 = .ok (.iconst 3, 1) := by decide +kernel
theorem dX7_weighsBy_61 : decode cX7_weighsBy 61 = .ok (.ireturn, 1) := by decide +kernel
theorem dX7_weighsBy_62 : decode cX7_weighsBy 62 = .ok (.iload_n 2, 1) := by decide +kernel
theorem dX7_weighsBy_63 : decode cX7_weighsBy 63 = .ok (.ireturn, 1) := by decide +kernel
theorem dX7_weighsBy_64 : decode cX7_weighsBy 64 = .ok (.aload_n 0, 1) := by decide +kernel
theorem dX7_weighsBy_65 : decode cX7_weighsBy 65 = .ok (.iload_n 1, 1) := by decide +kernel
theorem dX7_weighsBy_66 : decode cX7_weighsBy 66 = .ok (.iconst 1, 1) := by decide +kernel
theorem dX7_weighsBy_67 : decode cX7_weighsBy 67 = .ok (.invokevirtual 65, 3) := by decide +kernel
theorem dX7_weighsBy_70 : decode cX7_weighsBy 70 = .ok (.iconst 4, 1) := by decide +kernel
theorem dX7_weighsBy_71 : decode cX7_weighsBy 71 = .ok (.if_icmp .le 7, 3) := by decide +kernel
theorem dX7_weighsBy_74 : decode cX7_weighsBy 74 = .ok (.iconst 4, 1) := by decide +kernel
theorem dX7_weighsBy_75 : decode cX7_weighsBy 75 = .ok (.goto 4, 3) := by decide +kernel
theorem dX7_weighsBy_78 : decode cX7_weighsBy 78 = .ok (.iconst 2, 1) := by decide +kernel
theorem dX7_weighsBy_79 : decode cX7_weighsBy 79 = .ok (.ireturn, 1) := by decide +kernel
theorem dX7_weighsBy_80 : decode cX7_weighsBy 80 = .ok (.aload_n 0, 1) := by decide +kernel
theorem dX7_weighsBy_81 : decode cX7_weighsBy 81 = .ok (.getfield 9, 3) := by decide +kernel
theorem dX7_weighsBy_84 : decode cX7_weighsBy 84 = .ok (.iconst 0, 1) := by decide +kernel
theorem dX7_weighsBy_85 : decode cX7_weighsBy 85 = .ok (.iaload, 1) := by decide +kernel
theorem dX7_weighsBy_86 : decode cX7_weighsBy 86 = .ok (.iconst 2, 1) := by decide +kernel
theorem dX7_weighsBy_87 : decode cX7_weighsBy 87 = .ok (.irem, 1) := by decide +kernel
theorem dX7_weighsBy_88 : decode cX7_weighsBy 88 = .ok (.ifCond .ne 7, 3) := by decide +kernel
theorem dX7_weighsBy_91 : decode cX7_weighsBy 91 = .ok (.iconst 3, 1) := by decide +kernel
theorem dX7_weighsBy_92 : decode cX7_weighsBy 92 = .ok (.goto 4, 3) := by decide +kernel
theorem dX7_weighsBy_95 : decode cX7_weighsBy 95 = .ok (.iconst 1, 1) := by decide +kernel
theorem dX7_weighsBy_96 : decode cX7_weighsBy 96 = .ok (.ireturn, 1) := by decide +kernel
theorem dX7_weighsBy_97 : decode cX7_weighsBy 97 = .ok (.iload_n 2, 1) := by decide +kernel
theorem dX7_weighsBy_98 : decode cX7_weighsBy 98 = .ok (.iconst 1, 1) := by decide +kernel
theorem dX7_weighsBy_99 : decode cX7_weighsBy 99 = .ok (.isub, 1) := by decide +kernel
theorem dX7_weighsBy_100 : decode cX7_weighsBy 100 = .ok (.ireturn, 1) := by decide +kernel
theorem dX7_weighsBy_101 : decode cX7_weighsBy 101 = .ok (.iconst 4, 1) := by decide +kernel
theorem dX7_weighsBy_102 : decode cX7_weighsBy 102 = .ok (.ireturn, 1) := by decide +kernel
theorem dX7_weighsBy_103 : decode cX7_weighsBy 103 = .ok (.iconst 2, 1) := by decide +kernel
theorem dX7_weighsBy_104 : decode cX7_weighsBy 104 = .ok (.ireturn, 1) := by decide +kernel
theorem dX7_readBy_0 : decode cX7_readBy 0 = .ok (.aload_n 0, 1) := by decide +kernel
theorem dX7_readBy_1 : decode cX7_readBy 1 = .ok (.iload_n 1, 1) := by decide +kernel
theorem dX7_readBy_2 : decode cX7_readBy 2 = .ok (.iconst 4, 1) := by decide +kernel
theorem dX7_readBy_3 : decode cX7_readBy 3 = .ok (.invokevirtual 65, 3) := by decide +kernel
theorem dX7_readBy_6 : decode cX7_readBy 6 = .ok (.istore_n 2, 1) := by decide +kernel
theorem dX7_readBy_7 : decode cX7_readBy 7 = .ok (.aload_n 0, 1) := by decide +kernel
theorem dX7_readBy_8 : decode cX7_readBy 8 = .ok (.iload_n 1, 1) := by decide +kernel
theorem dX7_readBy_9 : decode cX7_readBy 9 = .ok (.iconst 0, 1) := by decide +kernel
theorem dX7_readBy_10 : decode cX7_readBy 10 = .ok (.invokevirtual 65, 3) := by decide +kernel
theorem dX7_readBy_13 : decode cX7_readBy 13 = .ok (.tableswitch 85 3 6 #[31, 44, 62, 68], 31) := by decide +kernel
theorem dX7_readBy_44 : decode cX7_readBy 44 = .ok (.iload_n 2, 1) := by decide +kernel
theorem dX7_readBy_45 : decode cX7_readBy 45 = .ok (.aload_n 0, 1) := by decide +kernel
theorem dX7_readBy_46 : decode cX7_readBy 46 = .ok (.iload_n 1, 1) := by decide +kernel
theorem dX7_readBy_47 : decode cX7_readBy 47 = .ok (.iconst 1, 1) := by decide +kernel
theorem dX7_readBy_48 : decode cX7_readBy 48 = .ok (.invokevirtual 65, 3) := by decide +kernel
theorem dX7_readBy_51 : decode cX7_readBy 51 = .ok (.iconst 3, 1) := by decide +kernel
theorem dX7_readBy_52 : decode cX7_readBy 52 = .ok (.irem, 1) := by decide +kernel
theorem dX7_readBy_53 : decode cX7_readBy 53 = .ok (.iadd, 1) := by decide +kernel
theorem dX7_readBy_54 : decode cX7_readBy 54 = .ok (.iconst 1, 1) := by decide +kernel
theorem dX7_readBy_55 : decode cX7_readBy 55 = .ok (.isub, 1) := by decide +kernel
theorem dX7_readBy_56 : decode cX7_readBy 56 = .ok (.ireturn, 1) := by decide +kernel
theorem dX7_readBy_57 : decode cX7_readBy 57 = .ok (.iload_n 2, 1) := by decide +kernel
theorem dX7_readBy_58 : decode cX7_readBy 58 = .ok (.aload_n 0, 1) := by decide +kernel
theorem dX7_readBy_59 : decode cX7_readBy 59 = .ok (.getfield 9, 3) := by decide +kernel
theorem dX7_readBy_62 : decode cX7_readBy 62 = .ok (.iconst 0, 1) := by decide +kernel
theorem dX7_readBy_63 : decode cX7_readBy 63 = .ok (.iaload, 1) := by decide +kernel
theorem dX7_readBy_64 : decode cX7_readBy 64 = .ok (.aload_n 0, 1) := by decide +kernel
theorem dX7_readBy_65 : decode cX7_readBy 65 = .ok (.iload_n 1, 1) := by decide +kernel
theorem dX7_readBy_66 : decode cX7_readBy 66 = .ok (.iconst 1, 1) := by decide +kernel
theorem dX7_readBy_67 : decode cX7_readBy 67 = .ok (.invokevirtual 65, 3) := by decide +kernel
theorem dX7_readBy_70 : decode cX7_readBy 70 = .ok (.iconst 1, 1) := by decide +kernel
theorem dX7_readBy_71 : decode cX7_readBy 71 = .ok (.iadd, 1) := by decide +kernel
theorem dX7_readBy_72 : decode cX7_readBy 72 = .ok (.irem, 1) := by decide +kernel
theorem dX7_readBy_73 : decode cX7_readBy 73 = .ok (.iadd, 1) := by decide +kernel
theorem dX7_readBy_74 : decode cX7_readBy 74 = .ok (.ireturn, 1) := by decide +kernel
theorem dX7_readBy_75 : decode cX7_readBy 75 = .ok (.iconst 2, 1) := by decide +kernel
theorem dX7_readBy_76 : decode cX7_readBy 76 = .ok (.iload_n 2, 1) := by decide +kernel
theorem dX7_readBy_77 : decode cX7_readBy 77 = .ok (.iconst 2, 1) := by decide +kernel
theorem dX7_readBy_78 : decode cX7_readBy 78 = .ok (.idiv, 1) := by decide +kernel
theorem dX7_readBy_79 : decode cX7_readBy 79 = .ok (.imul, 1) := by decide +kernel
theorem dX7_readBy_80 : decode cX7_readBy 80 = .ok (.ireturn, 1) := by decide +kernel
theorem dX7_readBy_81 : decode cX7_readBy 81 = .ok (.iload_n 2, 1) := by decide +kernel
theorem dX7_readBy_82 : decode cX7_readBy 82 = .ok (.ifCond .ge 7, 3) := by decide +kernel
theorem dX7_readBy_85 : decode cX7_readBy 85 = .ok (.iconst 0, 1) := by decide +kernel
theorem dX7_readBy_86 : decode cX7_readBy 86 = .ok (.goto 4, 3) := by decide +kernel
theorem dX7_readBy_89 : decode cX7_readBy 89 = .ok (.iload_n 2, 1) := by decide +kernel
theorem dX7_readBy_90 : decode cX7_readBy 90 = .ok (.aload_n 0, 1) := by decide +kernel
theorem dX7_readBy_91 : decode cX7_readBy 91 = .ok (.iload_n 1, 1) := by decide +kernel
theorem dX7_readBy_92 : decode cX7_readBy 92 = .ok (.iconst 1, 1) := by decide +kernel
theorem dX7_readBy_93 : decode cX7_readBy 93 = .ok (.invokevirtual 65, 3) := by decide +kernel
theorem dX7_readBy_96 : decode cX7_readBy 96 = .ok (.isub, 1) := by decide +kernel
theorem dX7_readBy_97 : decode cX7_readBy 97 = .ok (.ireturn, 1) := by decide +kernel
theorem dX7_readBy_98 : decode cX7_readBy 98 = .ok (.iload_n 2, 1) := by decide +kernel
theorem dX7_readBy_99 : decode cX7_readBy 99 = .ok (.ireturn, 1) := by decide +kernel
theorem dX7_weight_0 : decode cX7_weight 0 = .ok (.aload_n 0, 1) := by decide +kernel
theorem dX7_weight_1 : decode cX7_weight 1 = .ok (.iconst 0, 1) := by decide +kernel
theorem dX7_weight_2 : decode cX7_weight 2 = .ok (.aload_n 0, 1) := by decide +kernel
theorem dX7_weight_3 : decode cX7_weight 3 = .ok (.iload_n 1, 1) := by decide +kernel
theorem dX7_weight_4 : decode cX7_weight 4 = .ok (.invokevirtual 73, 3) := by decide +kernel
theorem dX7_weight_7 : decode cX7_weight 7 = .ok (.aload_n 0, 1) := by decide +kernel
theorem dX7_weight_8 : decode cX7_weight 8 = .ok (.iload_n 1, 1) := by decide +kernel
theorem dX7_weight_9 : decode cX7_weight 9 = .ok (.invokevirtual 69, 3) := by decide +kernel
theorem dX7_weight_12 : decode cX7_weight 12 = .ok (.aload_n 0, 1) := by decide +kernel
theorem dX7_weight_13 : decode cX7_weight 13 = .ok (.getfield 9, 3) := by decide +kernel
theorem dX7_weight_16 : decode cX7_weight 16 = .ok (.iconst 0, 1) := by decide +kernel
theorem dX7_weight_17 : decode cX7_weight 17 = .ok (.iaload, 1) := by decide +kernel
theorem dX7_weight_18 : decode cX7_weight 18 = .ok (.bipush 8, 2) := by decide +kernel
theorem dX7_weight_20 : decode cX7_weight 20 = .ok (.irem, 1) := by decide +kernel
theorem dX7_weight_21 : decode cX7_weight 21 = .ok (.invokevirtual 76, 3) := by decide +kernel
theorem dX7_weight_24 : decode cX7_weight 24 = .ok (.ireturn, 1) := by decide +kernel
theorem dX7_saysOf_0 : decode cX7_saysOf 0 = .ok (.aload_n 0, 1) := by decide +kernel
theorem dX7_saysOf_1 : decode cX7_saysOf 1 = .ok (.iconst 1, 1) := by decide +kernel
theorem dX7_saysOf_2 : decode cX7_saysOf 2 = .ok (.aload_n 0, 1) := by decide +kernel
theorem dX7_saysOf_3 : decode cX7_saysOf 3 = .ok (.iload_n 1, 1) := by decide +kernel
theorem dX7_saysOf_4 : decode cX7_saysOf 4 = .ok (.invokevirtual 80, 3) := by decide +kernel
theorem dX7_saysOf_7 : decode cX7_saysOf 7 = .ok (.aload_n 0, 1) := by decide +kernel
theorem dX7_saysOf_8 : decode cX7_saysOf 8 = .ok (.iload_n 1, 1) := by decide +kernel
theorem dX7_saysOf_9 : decode cX7_saysOf 9 = .ok (.iconst 4, 1) := by decide +kernel
theorem dX7_saysOf_10 : decode cX7_saysOf 10 = .ok (.invokevirtual 65, 3) := by decide +kernel
theorem dX7_saysOf_13 : decode cX7_saysOf 13 = .ok (.aload_n 0, 1) := by decide +kernel
theorem dX7_saysOf_14 : decode cX7_saysOf 14 = .ok (.getfield 9, 3) := by decide +kernel
theorem dX7_saysOf_17 : decode cX7_saysOf 17 = .ok (.iconst 0, 1) := by decide +kernel
theorem dX7_saysOf_18 : decode cX7_saysOf 18 = .ok (.iaload, 1) := by decide +kernel
theorem dX7_saysOf_19 : decode cX7_saysOf 19 = .ok (.bipush 8, 2) := by decide +kernel
theorem dX7_saysOf_21 : decode cX7_saysOf 21 = .ok (.irem, 1) := by decide +kernel
theorem dX7_saysOf_22 : decode cX7_saysOf 22 = .ok (.invokevirtual 76, 3) := by decide +kernel
theorem dX7_saysOf_25 : decode cX7_saysOf 25 = .ok (.ireturn, 1) := by decide +kernel
theorem dX7_tiedBy_0 : decode cX7_tiedBy 0 = .ok (.iconst 0, 1) := by decide +kernel
theorem dX7_tiedBy_1 : decode cX7_tiedBy 1 = .ok (.istore_n 2, 1) := by decide +kernel
theorem dX7_tiedBy_2 : decode cX7_tiedBy 2 = .ok (.iconst 0, 1) := by decide +kernel
theorem dX7_tiedBy_3 : decode cX7_tiedBy 3 = .ok (.istore_n 3, 1) := by decide +kernel
theorem dX7_tiedBy_4 : decode cX7_tiedBy 4 = .ok (.iload_n 3, 1) := by decide +kernel
theorem dX7_tiedBy_5 : decode cX7_tiedBy 5 = .ok (.iconst 4, 1) := by decide +kernel
theorem dX7_tiedBy_6 : decode cX7_tiedBy 6 = .ok (.if_icmp .ge 139, 3) := by decide +kernel
theorem dX7_tiedBy_9 : decode cX7_tiedBy 9 = .ok (.iconst 0, 1) := by decide +kernel
theorem dX7_tiedBy_10 : decode cX7_tiedBy 10 = .ok (.istore 4, 2) := by decide +kernel
theorem dX7_tiedBy_12 : decode cX7_tiedBy 12 = .ok (.iload 4, 2) := by decide +kernel
theorem dX7_tiedBy_14 : decode cX7_tiedBy 14 = .ok (.aload_n 0, 1) := by decide +kernel
theorem dX7_tiedBy_15 : decode cX7_tiedBy 15 = .ok (.getfield 9, 3) := by decide +kernel
theorem dX7_tiedBy_18 : decode cX7_tiedBy 18 = .ok (.iconst 2, 1) := by decide +kernel
theorem dX7_tiedBy_19 : decode cX7_tiedBy 19 = .ok (.iaload, 1) := by decide +kernel
theorem dX7_tiedBy_20 : decode cX7_tiedBy 20 = .ok (.if_icmp .ge 119, 3) := by decide +kernel
theorem dX7_tiedBy_23 : decode cX7_tiedBy 23 = .ok (.aload_n 0, 1) := by decide +kernel
theorem dX7_tiedBy_24 : decode cX7_tiedBy 24 = .ok (.iload 4, 2) := by decide +kernel
theorem dX7_tiedBy_26 : decode cX7_tiedBy 26 = .ok (.iconst 2, 1) := by decide +kernel
theorem dX7_tiedBy_27 : decode cX7_tiedBy 27 = .ok (.invokevirtual 65, 3) := by decide +kernel
theorem dX7_tiedBy_30 : decode cX7_tiedBy 30 = .ok (.ifCond .lt 18, 3) := by decide +kernel
theorem dX7_tiedBy_33 : decode cX7_tiedBy 33 = .ok (.iload_n 2, 1) := by decide +kernel
theorem dX7_tiedBy_34 : decode cX7_tiedBy 34 = .ok (.aload_n 0, 1) := by decide +kernel
theorem dX7_tiedBy_35 : decode cX7_tiedBy 35 = .ok (.iload 4, 2) := by decide +kernel
theorem dX7_tiedBy_37 : decode cX7_tiedBy 37 = .ok (.iconst 2, 1) := by decide +kernel
theorem dX7_tiedBy_38 : decode cX7_tiedBy 38 = .ok (.invokevirtual 65, 3) := by decide +kernel
theorem dX7_tiedBy_41 : decode cX7_tiedBy 41 = .ok (.ishr, 1) := by decide +kernel
theorem dX7_tiedBy_42 : decode cX7_tiedBy 42 = .ok (.iconst 1, 1) := by decide +kernel
theorem dX7_tiedBy_43 : decode cX7_tiedBy 43 = .ok (.iand, 1) := by decide +kernel
theorem dX7_tiedBy_44 : decode cX7_tiedBy 44 = .ok (.iconst 1, 1) := by decide +kernel
theorem dX7_tiedBy_45 : decode cX7_tiedBy 45 = .ok (.if_icmp .ne 7, 3) := by decide +kernel
theorem dX7_tiedBy_48 : decode cX7_tiedBy 48 = .ok (.iconst 1, 1) := by decide +kernel
theorem dX7_tiedBy_49 : decode cX7_tiedBy 49 = .ok (.goto 4, 3) := by decide +kernel
theorem dX7_tiedBy_52 : decode cX7_tiedBy 52 = .ok (.iconst 0, 1) := by decide +kernel
theorem dX7_tiedBy_53 : decode cX7_tiedBy 53 = .ok (.istore 5, 2) := by decide +kernel
theorem dX7_tiedBy_55 : decode cX7_tiedBy 55 = .ok (.iload_n 2, 1) := by decide +kernel
theorem dX7_tiedBy_56 : decode cX7_tiedBy 56 = .ok (.aload_n 0, 1) := by decide +kernel
theorem dX7_tiedBy_57 : decode cX7_tiedBy 57 = .ok (.iload 4, 2) := by decide +kernel
theorem dX7_tiedBy_59 : decode cX7_tiedBy 59 = .ok (.iconst 3, 1) := by decide +kernel
theorem dX7_tiedBy_60 : decode cX7_tiedBy 60 = .ok (.invokevirtual 65, 3) := by decide +kernel
theorem dX7_tiedBy_63 : decode cX7_tiedBy 63 = .ok (.ishr, 1) := by decide +kernel
theorem dX7_tiedBy_64 : decode cX7_tiedBy 64 = .ok (.iconst 1, 1) := by decide +kernel
theorem dX7_tiedBy_65 : decode cX7_tiedBy 65 = .ok (.iand, 1) := by decide +kernel
theorem dX7_tiedBy_66 : decode cX7_tiedBy 66 = .ok (.iconst 1, 1) := by decide +kernel
theorem dX7_tiedBy_67 : decode cX7_tiedBy 67 = .ok (.if_icmp .ne 7, 3) := by decide +kernel
theorem dX7_tiedBy_70 : decode cX7_tiedBy 70 = .ok (.iconst 1, 1) := by decide +kernel
theorem dX7_tiedBy_71 : decode cX7_tiedBy 71 = .ok (.goto 4, 3) := by decide +kernel
theorem dX7_tiedBy_74 : decode cX7_tiedBy 74 = .ok (.iconst 0, 1) := by decide +kernel
theorem dX7_tiedBy_75 : decode cX7_tiedBy 75 = .ok (.istore 6, 2) := by decide +kernel
theorem dX7_tiedBy_77 : decode cX7_tiedBy 77 = .ok (.iload_n 1, 1) := by decide +kernel
theorem dX7_tiedBy_78 : decode cX7_tiedBy 78 = .ok (.iload 4, 2) := by decide +kernel
theorem dX7_tiedBy_80 : decode cX7_tiedBy 80 = .ok (.ishr, 1) := by decide +kernel
theorem dX7_tiedBy_81 : decode cX7_tiedBy 81 = .ok (.iconst 1, 1) := by decide +kernel
theorem dX7_tiedBy_82 : decode cX7_tiedBy 82 = .ok (.iand, 1) := by decide +kernel
theorem dX7_tiedBy_83 : decode cX7_tiedBy 83 = .ok (.iconst 1, 1) := by decide +kernel
theorem dX7_tiedBy_84 : decode cX7_tiedBy 84 = .ok (.if_icmp .ne 49, 3) := by decide +kernel
theorem dX7_tiedBy_87 : decode cX7_tiedBy 87 = .ok (.iload 5, 2) := by decide +kernel
theorem dX7_tiedBy_89 : decode cX7_tiedBy 89 = .ok (.ifCond .ne 8, 3) := by decide +kernel
theorem dX7_tiedBy_92 : decode cX7_tiedBy 92 = .ok (.iload 6, 2) := by decide +kernel
theorem dX7_tiedBy_94 : decode cX7_tiedBy 94 = .ok (.ifCond .eq 39, 3) := by decide +kernel
theorem dX7_tiedBy_97 : decode cX7_tiedBy 97 = .ok (.iload_n 2, 1) := by decide +kernel
theorem dX7_tiedBy_98 : decode cX7_tiedBy 98 = .ok (.iconst 1, 1) := by decide +kernel
theorem dX7_tiedBy_99 : decode cX7_tiedBy 99 = .ok (.aload_n 0, 1) := by decide +kernel
theorem dX7_tiedBy_100 : decode cX7_tiedBy 100 = .ok (.iload 4, 2) := by decide +kernel
theorem dX7_tiedBy_102 : decode cX7_tiedBy 102 = .ok (.iconst 3, 1) := by decide +kernel
theorem dX7_tiedBy_103 : decode cX7_tiedBy 103 = .ok (.invokevirtual 65, 3) := by decide +kernel
theorem dX7_tiedBy_106 : decode cX7_tiedBy 106 = .ok (.ishl, 1) := by decide +kernel
theorem dX7_tiedBy_107 : decode cX7_tiedBy 107 = .ok (.aload_n 0, 1) := by decide +kernel
theorem dX7_tiedBy_108 : decode cX7_tiedBy 108 = .ok (.iload 4, 2) := by decide +kernel
theorem dX7_tiedBy_110 : decode cX7_tiedBy 110 = .ok (.iconst 2, 1) := by decide +kernel
theorem dX7_tiedBy_111 : decode cX7_tiedBy 111 = .ok (.invokevirtual 65, 3) := by decide +kernel
theorem dX7_tiedBy_114 : decode cX7_tiedBy 114 = .ok (.ifCond .ge 7, 3) := by decide +kernel
theorem dX7_tiedBy_117 : decode cX7_tiedBy 117 = .ok (.iconst 0, 1) := by decide +kernel
theorem dX7_tiedBy_118 : decode cX7_tiedBy 118 = .ok (.goto 12, 3) := by decide +kernel
theorem dX7_tiedBy_121 : decode cX7_tiedBy 121 = .ok (.iconst 1, 1) := by decide +kernel
theorem dX7_tiedBy_122 : decode cX7_tiedBy 122 = .ok (.aload_n 0, 1) := by decide +kernel
theorem dX7_tiedBy_123 : decode cX7_tiedBy 123 = .ok (.iload 4, 2) := by decide +kernel
theorem dX7_tiedBy_125 : decode cX7_tiedBy 125 = .ok (.iconst 2, 1) := by decide +kernel
theorem dX7_tiedBy_126 : decode cX7_tiedBy 126 = .ok (.invokevirtual 65, 3) := by decide +kernel
theorem dX7_tiedBy_129 : decode cX7_tiedBy 129 = .ok (.ishl, 1) := by decide +kernel
theorem dX7_tiedBy_130 : decode cX7_tiedBy 130 = .ok (.ior, 1) := by decide +kernel
theorem dX7_tiedBy_131 : decode cX7_tiedBy 131 = .ok (.ior, 1) := by decide +kernel
theorem dX7_tiedBy_132 : decode cX7_tiedBy 132 = .ok (.istore_n 2, 1) := by decide +kernel
theorem dX7_tiedBy_133 : decode cX7_tiedBy 133 = .ok (.iinc 4 1, 3) := by decide +kernel
theorem dX7_tiedBy_136 : decode cX7_tiedBy 136 = .ok (.goto (-124), 3) := by decide +kernel
theorem dX7_tiedBy_139 : decode cX7_tiedBy 139 = .ok (.iinc 3 1, 3) := by decide +kernel
theorem dX7_tiedBy_142 : decode cX7_tiedBy 142 = .ok (.goto (-138), 3) := by decide +kernel
theorem dX7_tiedBy_145 : decode cX7_tiedBy 145 = .ok (.iload_n 2, 1) := by decide +kernel
theorem dX7_tiedBy_146 : decode cX7_tiedBy 146 = .ok (.ireturn, 1) := by decide +kernel
theorem dX7_doesHold_0 : decode cX7_doesHold 0 = .ok (.aload_n 0, 1) := by decide +kernel
theorem dX7_doesHold_1 : decode cX7_doesHold 1 = .ok (.iload_n 1, 1) := by decide +kernel
theorem dX7_doesHold_2 : decode cX7_doesHold 2 = .ok (.invokevirtual 83, 3) := by decide +kernel
theorem dX7_doesHold_5 : decode cX7_doesHold 5 = .ok (.iconst 1, 1) := by decide +kernel
theorem dX7_doesHold_6 : decode cX7_doesHold 6 = .ok (.aload_n 0, 1) := by decide +kernel
theorem dX7_doesHold_7 : decode cX7_doesHold 7 = .ok (.getfield 9, 3) := by decide +kernel
theorem dX7_doesHold_10 : decode cX7_doesHold 10 = .ok (.iconst 3, 1) := by decide +kernel
theorem dX7_doesHold_11 : decode cX7_doesHold 11 = .ok (.iaload, 1) := by decide +kernel
theorem dX7_doesHold_12 : decode cX7_doesHold 12 = .ok (.ishl, 1) := by decide +kernel
theorem dX7_doesHold_13 : decode cX7_doesHold 13 = .ok (.iconst 1, 1) := by decide +kernel
theorem dX7_doesHold_14 : decode cX7_doesHold 14 = .ok (.isub, 1) := by decide +kernel
theorem dX7_doesHold_15 : decode cX7_doesHold 15 = .ok (.if_icmp .ne 7, 3) := by decide +kernel
theorem dX7_doesHold_18 : decode cX7_doesHold 18 = .ok (.iconst 1, 1) := by decide +kernel
theorem dX7_doesHold_19 : decode cX7_doesHold 19 = .ok (.goto 4, 3) := by decide +kernel
theorem dX7_doesHold_22 : decode cX7_doesHold 22 = .ok (.iconst 0, 1) := by decide +kernel
theorem dX7_doesHold_23 : decode cX7_doesHold 23 = .ok (.ireturn, 1) := by decide +kernel
theorem dX7_det_0 : decode cX7_det 0 = .ok (.aload_n 0, 1) := by decide +kernel
theorem dX7_det_1 : decode cX7_det 1 = .ok (.getfield 9, 3) := by decide +kernel
theorem dX7_det_4 : decode cX7_det 4 = .ok (.iconst 3, 1) := by decide +kernel
theorem dX7_det_5 : decode cX7_det 5 = .ok (.iaload, 1) := by decide +kernel
theorem dX7_det_6 : decode cX7_det 6 = .ok (.istore 4, 2) := by decide +kernel
theorem dX7_det_8 : decode cX7_det 8 = .ok (.iload_n 1, 1) := by decide +kernel
theorem dX7_det_9 : decode cX7_det 9 = .ok (.iload 4, 2) := by decide +kernel
theorem dX7_det_11 : decode cX7_det 11 = .ok (.if_icmp .ne 5, 3) := by decide +kernel
theorem dX7_det_14 : decode cX7_det 14 = .ok (.lconst 1, 1) := by decide +kernel
theorem dX7_det_15 : decode cX7_det 15 = .ok (.lreturn, 1) := by decide +kernel
theorem dX7_det_16 : decode cX7_det 16 = .ok (.lconst 0, 1) := by decide +kernel
theorem dX7_det_17 : decode cX7_det 17 = .ok (.lstore 5, 2) := by decide +kernel
theorem dX7_det_19 : decode cX7_det 19 = .ok (.lconst 1, 1) := by decide +kernel
theorem dX7_det_20 : decode cX7_det 20 = .ok (.lstore 7, 2) := by decide +kernel
theorem dX7_det_22 : decode cX7_det 22 = .ok (.iconst 0, 1) := by decide +kernel
theorem dX7_det_23 : decode cX7_det 23 = .ok (.istore 9, 2) := by decide +kernel
theorem dX7_det_25 : decode cX7_det 25 = .ok (.iload 9, 2) := by decide +kernel
theorem dX7_det_27 : decode cX7_det 27 = .ok (.iload 4, 2) := by decide +kernel
theorem dX7_det_29 : decode cX7_det 29 = .ok (.if_icmp .ge 87, 3) := by decide +kernel
theorem dX7_det_32 : decode cX7_det 32 = .ok (.iload_n 2, 1) := by decide +kernel
theorem dX7_det_33 : decode cX7_det 33 = .ok (.iload 9, 2) := by decide +kernel
theorem dX7_det_35 : decode cX7_det 35 = .ok (.ishr, 1) := by decide +kernel
theorem dX7_det_36 : decode cX7_det 36 = .ok (.iconst 1, 1) := by decide +kernel
theorem dX7_det_37 : decode cX7_det 37 = .ok (.iand, 1) := by decide +kernel
theorem dX7_det_38 : decode cX7_det 38 = .ok (.ifCond .ne 72, 3) := by decide +kernel
theorem dX7_det_41 : decode cX7_det 41 = .ok (.iload 9, 2) := by decide +kernel
theorem dX7_det_43 : decode cX7_det 43 = .ok (.iload_n 3, 1) := by decide +kernel
theorem dX7_det_44 : decode cX7_det 44 = .ok (.if_icmp .ne 12, 3) := by decide +kernel
theorem dX7_det_47 : decode cX7_det 47 = .ok (.aload_n 0, 1) := by decide +kernel
theorem dX7_det_48 : decode cX7_det 48 = .ok (.getfield 35, 3) := by decide +kernel
theorem dX7_det_51 : decode cX7_det 51 = .ok (.iload_n 1, 1) := by decide +kernel
theorem dX7_det_52 : decode cX7_det 52 = .ok (.laload, 1) := by decide +kernel
theorem dX7_det_53 : decode cX7_det 53 = .ok (.goto 14, 3) := by decide +kernel
theorem dX7_det_56 : decode cX7_det 56 = .ok (.aload_n 0, 1) := by decide +kernel
theorem dX7_det_57 : decode cX7_det 57 = .ok (.getfield 31, 3) := by decide +kernel
theorem dX7_det_60 : decode cX7_det 60 = .ok (.iconst 4, 1) := by decide +kernel
theorem dX7_det_61 : decode cX7_det 61 = .ok (.iload_n 1, 1) := by decide +kernel
theorem dX7_det_62 : decode cX7_det 62 = .ok (.imul, 1) := by decide +kernel
theorem dX7_det_63 : decode cX7_det 63 = .ok (.iload 9, 2) := by decide +kernel
theorem dX7_det_65 : decode cX7_det 65 = .ok (.iadd, 1) := by decide +kernel
theorem dX7_det_66 : decode cX7_det 66 = .ok (.laload, 1) := by decide +kernel
theorem dX7_det_67 : decode cX7_det 67 = .ok (.lstore 10, 2) := by decide +kernel
theorem dX7_det_69 : decode cX7_det 69 = .ok (.lload 5, 2) := by decide +kernel
theorem dX7_det_71 : decode cX7_det 71 = .ok (.lload 10, 2) := by decide +kernel
theorem dX7_det_73 : decode cX7_det 73 = .ok (.lconst 0, 1) := by decide +kernel
theorem dX7_det_74 : decode cX7_det 74 = .ok (.lcmp, 1) := by decide +kernel
theorem dX7_det_75 : decode cX7_det 75 = .ok (.ifCond .ne 7, 3) := by decide +kernel
theorem dX7_det_78 : decode cX7_det 78 = .ok (.lconst 0, 1) := by decide +kernel
theorem dX7_det_79 : decode cX7_det 79 = .ok (.goto 23, 3) := by decide +kernel
theorem dX7_det_82 : decode cX7_det 82 = .ok (.lload 7, 2) := by decide +kernel
theorem dX7_det_84 : decode cX7_det 84 = .ok (.lload 10, 2) := by decide +kernel
theorem dX7_det_86 : decode cX7_det 86 = .ok (.lmul, 1) := by decide +kernel
theorem dX7_det_87 : decode cX7_det 87 = .ok (.aload_n 0, 1) := by decide +kernel
theorem dX7_det_88 : decode cX7_det 88 = .ok (.iload_n 1, 1) := by decide +kernel
theorem dX7_det_89 : decode cX7_det 89 = .ok (.iconst 1, 1) := by decide +kernel
theorem dX7_det_90 : decode cX7_det 90 = .ok (.iadd, 1) := by decide +kernel
theorem dX7_det_91 : decode cX7_det 91 = .ok (.iload_n 2, 1) := by decide +kernel
theorem dX7_det_92 : decode cX7_det 92 = .ok (.iconst 1, 1) := by decide +kernel
theorem dX7_det_93 : decode cX7_det 93 = .ok (.iload 9, 2) := by decide +kernel
theorem dX7_det_95 : decode cX7_det 95 = .ok (.ishl, 1) := by decide +kernel
theorem dX7_det_96 : decode cX7_det 96 = .ok (.ior, 1) := by decide +kernel
theorem dX7_det_97 : decode cX7_det 97 = .ok (.iload_n 3, 1) := by decide +kernel
theorem dX7_det_98 : decode cX7_det 98 = .ok (.invokevirtual 86, 3) := by decide +kernel
theorem dX7_det_101 : decode cX7_det 101 = .ok (.lmul, 1) := by decide +kernel
theorem dX7_det_102 : decode cX7_det 102 = .ok (.ladd, 1) := by decide +kernel
theorem dX7_det_103 : decode cX7_det 103 = .ok (.lstore 5, 2) := by decide +kernel
theorem dX7_det_105 : decode cX7_det 105 = .ok (.lload 7, 2) := by decide +kernel
theorem dX7_det_107 : decode cX7_det 107 = .ok (.lneg, 1) := by decide +kernel
theorem dX7_det_108 : decode cX7_det 108 = .ok (.lstore 7, 2) := by decide +kernel
theorem dX7_det_110 : decode cX7_det 110 = .ok (.iinc 9 1, 3) := by decide +kernel
theorem dX7_det_113 : decode cX7_det 113 = .ok (.goto (-88), 3) := by decide +kernel
theorem dX7_det_116 : decode cX7_det 116 = .ok (.lload 5, 2) := by decide +kernel
theorem dX7_det_118 : decode cX7_det 118 = .ok (.lreturn, 1) := by decide +kernel
theorem dX7_adds_0 : decode cX7_adds 0 = .ok (.aload_n 0, 1) := by decide +kernel
theorem dX7_adds_1 : decode cX7_adds 1 = .ok (.iload_n 1, 1) := by decide +kernel
theorem dX7_adds_2 : decode cX7_adds 2 = .ok (.invokevirtual 90, 3) := by decide +kernel
theorem dX7_adds_5 : decode cX7_adds 5 = .ok (.i2l, 1) := by decide +kernel
theorem dX7_adds_6 : decode cX7_adds 6 = .ok (.lstore_n 2, 1) := by decide +kernel
theorem dX7_adds_7 : decode cX7_adds 7 = .ok (.aload_n 0, 1) := by decide +kernel
theorem dX7_adds_8 : decode cX7_adds 8 = .ok (.iload_n 1, 1) := by decide +kernel
theorem dX7_adds_9 : decode cX7_adds 9 = .ok (.iconst 2, 1) := by decide +kernel
theorem dX7_adds_10 : decode cX7_adds 10 = .ok (.invokevirtual 65, 3) := by decide +kernel
theorem dX7_adds_13 : decode cX7_adds 13 = .ok (.istore 4, 2) := by decide +kernel
theorem dX7_adds_15 : decode cX7_adds 15 = .ok (.aload_n 0, 1) := by decide +kernel
theorem dX7_adds_16 : decode cX7_adds 16 = .ok (.iload_n 1, 1) := by decide +kernel
theorem dX7_adds_17 : decode cX7_adds 17 = .ok (.iconst 3, 1) := by decide +kernel
theorem dX7_adds_18 : decode cX7_adds 18 = .ok (.invokevirtual 65, 3) := by decide +kernel
theorem dX7_adds_21 : decode cX7_adds 21 = .ok (.istore 5, 2) := by decide +kernel
theorem dX7_adds_23 : decode cX7_adds 23 = .ok (.aload_n 0, 1) := by decide +kernel
theorem dX7_adds_24 : decode cX7_adds 24 = .ok (.getfield 31, 3) := by decide +kernel
theorem dX7_adds_27 : decode cX7_adds 27 = .ok (.iconst 5, 1) := by decide +kernel
theorem dX7_adds_28 : decode cX7_adds 28 = .ok (.iload 5, 2) := by decide +kernel
theorem dX7_adds_30 : decode cX7_adds 30 = .ok (.imul, 1) := by decide +kernel
theorem dX7_adds_31 : decode cX7_adds 31 = .ok (.dup2, 1) := by decide +kernel
theorem dX7_adds_32 : decode cX7_adds 32 = .ok (.laload, 1) := by decide +kernel
theorem dX7_adds_33 : decode cX7_adds 33 = .ok (.lload_n 2, 1) := by decide +kernel
theorem dX7_adds_34 : decode cX7_adds 34 = .ok (.ladd, 1) := by decide +kernel
theorem dX7_adds_35 : decode cX7_adds 35 = .ok (.lastore, 1) := by decide +kernel
theorem dX7_adds_36 : decode cX7_adds 36 = .ok (.aload_n 0, 1) := by decide +kernel
theorem dX7_adds_37 : decode cX7_adds 37 = .ok (.getfield 35, 3) := by decide +kernel
theorem dX7_adds_40 : decode cX7_adds 40 = .ok (.iload 5, 2) := by decide +kernel
theorem dX7_adds_42 : decode cX7_adds 42 = .ok (.dup2, 1) := by decide +kernel
theorem dX7_adds_43 : decode cX7_adds 43 = .ok (.laload, 1) := by decide +kernel
theorem dX7_adds_44 : decode cX7_adds 44 = .ok (.lload_n 2, 1) := by decide +kernel
theorem dX7_adds_45 : decode cX7_adds 45 = .ok (.aload_n 0, 1) := by decide +kernel
theorem dX7_adds_46 : decode cX7_adds 46 = .ok (.iload_n 1, 1) := by decide +kernel
theorem dX7_adds_47 : decode cX7_adds 47 = .ok (.invokevirtual 93, 3) := by decide +kernel
theorem dX7_adds_50 : decode cX7_adds 50 = .ok (.i2l, 1) := by decide +kernel
theorem dX7_adds_51 : decode cX7_adds 51 = .ok (.lmul, 1) := by decide +kernel
theorem dX7_adds_52 : decode cX7_adds 52 = .ok (.ladd, 1) := by decide +kernel
theorem dX7_adds_53 : decode cX7_adds 53 = .ok (.lastore, 1) := by decide +kernel
theorem dX7_adds_54 : decode cX7_adds 54 = .ok (.iload 4, 2) := by decide +kernel
theorem dX7_adds_56 : decode cX7_adds 56 = .ok (.ifCond .lt 66, 3) := by decide +kernel
theorem dX7_adds_59 : decode cX7_adds 59 = .ok (.aload_n 0, 1) := by decide +kernel
theorem dX7_adds_60 : decode cX7_adds 60 = .ok (.getfield 31, 3) := by decide +kernel
theorem dX7_adds_63 : decode cX7_adds 63 = .ok (.iconst 5, 1) := by decide +kernel
theorem dX7_adds_64 : decode cX7_adds 64 = .ok (.iload 4, 2) := by decide +kernel
theorem dX7_adds_66 : decode cX7_adds 66 = .ok (.imul, 1) := by decide +kernel
theorem dX7_adds_67 : decode cX7_adds 67 = .ok (.dup2, 1) := by decide +kernel
theorem dX7_adds_68 : decode cX7_adds 68 = .ok (.laload, 1) := by decide +kernel
theorem dX7_adds_69 : decode cX7_adds 69 = .ok (.lload_n 2, 1) := by decide +kernel
theorem dX7_adds_70 : decode cX7_adds 70 = .ok (.ladd, 1) := by decide +kernel
theorem dX7_adds_71 : decode cX7_adds 71 = .ok (.lastore, 1) := by decide +kernel
theorem dX7_adds_72 : decode cX7_adds 72 = .ok (.aload_n 0, 1) := by decide +kernel
theorem dX7_adds_73 : decode cX7_adds 73 = .ok (.getfield 31, 3) := by decide +kernel
theorem dX7_adds_76 : decode cX7_adds 76 = .ok (.iconst 4, 1) := by decide +kernel
theorem dX7_adds_77 : decode cX7_adds 77 = .ok (.iload 4, 2) := by decide +kernel
theorem dX7_adds_79 : decode cX7_adds 79 = .ok (.imul, 1) := by decide +kernel
theorem dX7_adds_80 : decode cX7_adds 80 = .ok (.iload 5, 2) := by decide +kernel
theorem dX7_adds_82 : decode cX7_adds 82 = .ok (.iadd, 1) := by decide +kernel
theorem dX7_adds_83 : decode cX7_adds 83 = .ok (.dup2, 1) := by decide +kernel
theorem dX7_adds_84 : decode cX7_adds 84 = .ok (.laload, 1) := by decide +kernel
theorem dX7_adds_85 : decode cX7_adds 85 = .ok (.lload_n 2, 1) := by decide +kernel
theorem dX7_adds_86 : decode cX7_adds 86 = .ok (.lsub, 1) := by decide +kernel
theorem dX7_adds_87 : decode cX7_adds 87 = .ok (.lastore, 1) := by decide +kernel
theorem dX7_adds_88 : decode cX7_adds 88 = .ok (.aload_n 0, 1) := by decide +kernel
theorem dX7_adds_89 : decode cX7_adds 89 = .ok (.getfield 31, 3) := by decide +kernel
theorem dX7_adds_92 : decode cX7_adds 92 = .ok (.iconst 4, 1) := by decide +kernel
theorem dX7_adds_93 : decode cX7_adds 93 = .ok (.iload 5, 2) := by decide +kernel
theorem dX7_adds_95 : decode cX7_adds 95 = .ok (.imul, 1) := by decide +kernel
theorem dX7_adds_96 : decode cX7_adds 96 = .ok (.iload 4, 2) := by decide +kernel
theorem dX7_adds_98 : decode cX7_adds 98 = .ok (.iadd, 1) := by decide +kernel
theorem dX7_adds_99 : decode cX7_adds 99 = .ok (.dup2, 1) := by decide +kernel
theorem dX7_adds_100 : decode cX7_adds 100 = .ok (.laload, 1) := by decide +kernel
theorem dX7_adds_101 : decode cX7_adds 101 = .ok (.lload_n 2, 1) := by decide +kernel
theorem dX7_adds_102 : decode cX7_adds 102 = .ok (.lsub, 1) := by decide +kernel
theorem dX7_adds_103 : decode cX7_adds 103 = .ok (.lastore, 1) := by decide +kernel
theorem dX7_adds_104 : decode cX7_adds 104 = .ok (.aload_n 0, 1) := by decide +kernel
theorem dX7_adds_105 : decode cX7_adds 105 = .ok (.getfield 35, 3) := by decide +kernel
theorem dX7_adds_108 : decode cX7_adds 108 = .ok (.iload 4, 2) := by decide +kernel
theorem dX7_adds_110 : decode cX7_adds 110 = .ok (.dup2, 1) := by decide +kernel
theorem dX7_adds_111 : decode cX7_adds 111 = .ok (.laload, 1) := by decide +kernel
theorem dX7_adds_112 : decode cX7_adds 112 = .ok (.lload_n 2, 1) := by decide +kernel
theorem dX7_adds_113 : decode cX7_adds 113 = .ok (.aload_n 0, 1) := by decide +kernel
theorem dX7_adds_114 : decode cX7_adds 114 = .ok (.iload_n 1, 1) := by decide +kernel
theorem dX7_adds_115 : decode cX7_adds 115 = .ok (.invokevirtual 93, 3) := by decide +kernel
theorem dX7_adds_118 : decode cX7_adds 118 = .ok (.i2l, 1) := by decide +kernel
theorem dX7_adds_119 : decode cX7_adds 119 = .ok (.lmul, 1) := by decide +kernel
theorem dX7_adds_120 : decode cX7_adds 120 = .ok (.lsub, 1) := by decide +kernel
theorem dX7_adds_121 : decode cX7_adds 121 = .ok (.lastore, 1) := by decide +kernel
theorem dX7_adds_122 : decode cX7_adds 122 = .ok (.return_, 1) := by decide +kernel
theorem dX7_isSolved_0 : decode cX7_isSolved 0 = .ok (.aload_n 0, 1) := by decide +kernel
theorem dX7_isSolved_1 : decode cX7_isSolved 1 = .ok (.aload_n 0, 1) := by decide +kernel
theorem dX7_isSolved_2 : decode cX7_isSolved 2 = .ok (.invokevirtual 96, 3) := by decide +kernel
theorem dX7_isSolved_5 : decode cX7_isSolved 5 = .ok (.invokevirtual 100, 3) := by decide +kernel
theorem dX7_isSolved_8 : decode cX7_isSolved 8 = .ok (.ifCond .ne 5, 3) := by decide +kernel
theorem dX7_isSolved_11 : decode cX7_isSolved 11 = .ok (.iconst 0, 1) := by decide +kernel
theorem dX7_isSolved_12 : decode cX7_isSolved 12 = .ok (.ireturn, 1) := by decide +kernel
theorem dX7_isSolved_13 : decode cX7_isSolved 13 = .ok (.iconst 0, 1) := by decide +kernel
theorem dX7_isSolved_14 : decode cX7_isSolved 14 = .ok (.istore_n 1, 1) := by decide +kernel
theorem dX7_isSolved_15 : decode cX7_isSolved 15 = .ok (.iload_n 1, 1) := by decide +kernel
theorem dX7_isSolved_16 : decode cX7_isSolved 16 = .ok (.bipush 16, 2) := by decide +kernel
theorem dX7_isSolved_18 : decode cX7_isSolved 18 = .ok (.if_icmp .ge 25, 3) := by decide +kernel
theorem dX7_isSolved_21 : decode cX7_isSolved 21 = .ok (.aload_n 0, 1) := by decide +kernel
theorem dX7_isSolved_22 : decode cX7_isSolved 22 = .ok (.getfield 31, 3) := by decide +kernel
theorem dX7_isSolved_25 : decode cX7_isSolved 25 = .ok (.iload_n 1, 1) := by decide +kernel
theorem dX7_isSolved_26 : decode cX7_isSolved 26 = .ok (.lconst 0, 1) := by decide +kernel
theorem dX7_isSolved_27 : decode cX7_isSolved 27 = .ok (.lastore, 1) := by decide +kernel
theorem dX7_isSolved_28 : decode cX7_isSolved 28 = .ok (.aload_n 0, 1) := by decide +kernel
theorem dX7_isSolved_29 : decode cX7_isSolved 29 = .ok (.getfield 35, 3) := by decide +kernel
theorem dX7_isSolved_32 : decode cX7_isSolved 32 = .ok (.iload_n 1, 1) := by decide +kernel
theorem dX7_isSolved_33 : decode cX7_isSolved 33 = .ok (.iconst 4, 1) := by decide +kernel
theorem dX7_isSolved_34 : decode cX7_isSolved 34 = .ok (.idiv, 1) := by decide +kernel
theorem dX7_isSolved_35 : decode cX7_isSolved 35 = .ok (.lconst 0, 1) := by decide +kernel
theorem dX7_isSolved_36 : decode cX7_isSolved 36 = .ok (.lastore, 1) := by decide +kernel
theorem dX7_isSolved_37 : decode cX7_isSolved 37 = .ok (.iinc 1 1, 3) := by decide +kernel
theorem dX7_isSolved_40 : decode cX7_isSolved 40 = .ok (.goto (-25), 3) := by decide +kernel
theorem dX7_isSolved_43 : decode cX7_isSolved 43 = .ok (.iconst 0, 1) := by decide +kernel
theorem dX7_isSolved_44 : decode cX7_isSolved 44 = .ok (.istore_n 1, 1) := by decide +kernel
theorem dX7_isSolved_45 : decode cX7_isSolved 45 = .ok (.iload_n 1, 1) := by decide +kernel
theorem dX7_isSolved_46 : decode cX7_isSolved 46 = .ok (.aload_n 0, 1) := by decide +kernel
theorem dX7_isSolved_47 : decode cX7_isSolved 47 = .ok (.getfield 9, 3) := by decide +kernel
theorem dX7_isSolved_50 : decode cX7_isSolved 50 = .ok (.iconst 2, 1) := by decide +kernel
theorem dX7_isSolved_51 : decode cX7_isSolved 51 = .ok (.iaload, 1) := by decide +kernel
theorem dX7_isSolved_52 : decode cX7_isSolved 52 = .ok (.if_icmp .ge 24, 3) := by decide +kernel
theorem dX7_isSolved_55 : decode cX7_isSolved 55 = .ok (.aload_n 0, 1) := by decide +kernel
theorem dX7_isSolved_56 : decode cX7_isSolved 56 = .ok (.iload_n 1, 1) := by decide +kernel
theorem dX7_isSolved_57 : decode cX7_isSolved 57 = .ok (.iconst 5, 1) := by decide +kernel
theorem dX7_isSolved_58 : decode cX7_isSolved 58 = .ok (.invokevirtual 65, 3) := by decide +kernel
theorem dX7_isSolved_61 : decode cX7_isSolved 61 = .ok (.iconst 1, 1) := by decide +kernel
theorem dX7_isSolved_62 : decode cX7_isSolved 62 = .ok (.if_icmp .ne 8, 3) := by decide +kernel
theorem dX7_isSolved_65 : decode cX7_isSolved 65 = .ok (.aload_n 0, 1) := by decide +kernel
theorem dX7_isSolved_66 : decode cX7_isSolved 66 = .ok (.iload_n 1, 1) := by decide +kernel
theorem dX7_isSolved_67 : decode cX7_isSolved 67 = .ok (.invokevirtual 104, 3) := by decide +kernel
theorem dX7_isSolved_70 : decode cX7_isSolved 70 = .ok (.iinc 1 1, 3) := by decide +kernel
theorem dX7_isSolved_73 : decode cX7_isSolved 73 = .ok (.goto (-28), 3) := by decide +kernel
theorem dX7_isSolved_76 : decode cX7_isSolved 76 = .ok (.aload_n 0, 1) := by decide +kernel
theorem dX7_isSolved_77 : decode cX7_isSolved 77 = .ok (.aload_n 0, 1) := by decide +kernel
theorem dX7_isSolved_78 : decode cX7_isSolved 78 = .ok (.iconst 0, 1) := by decide +kernel
theorem dX7_isSolved_79 : decode cX7_isSolved 79 = .ok (.iconst 0, 1) := by decide +kernel
theorem dX7_isSolved_80 : decode cX7_isSolved 80 = .ok (.iconst (-1), 1) := by decide +kernel
theorem dX7_isSolved_81 : decode cX7_isSolved 81 = .ok (.invokevirtual 86, 3) := by decide +kernel
theorem dX7_isSolved_84 : decode cX7_isSolved 84 = .ok (.putfield 108, 3) := by decide +kernel
theorem dX7_isSolved_87 : decode cX7_isSolved 87 = .ok (.iconst 0, 1) := by decide +kernel
theorem dX7_isSolved_88 : decode cX7_isSolved 88 = .ok (.istore_n 1, 1) := by decide +kernel
theorem dX7_isSolved_89 : decode cX7_isSolved 89 = .ok (.iload_n 1, 1) := by decide +kernel
theorem dX7_isSolved_90 : decode cX7_isSolved 90 = .ok (.aload_n 0, 1) := by decide +kernel
theorem dX7_isSolved_91 : decode cX7_isSolved 91 = .ok (.getfield 9, 3) := by decide +kernel
theorem dX7_isSolved_94 : decode cX7_isSolved 94 = .ok (.iconst 3, 1) := by decide +kernel
theorem dX7_isSolved_95 : decode cX7_isSolved 95 = .ok (.iaload, 1) := by decide +kernel
theorem dX7_isSolved_96 : decode cX7_isSolved 96 = .ok (.if_icmp .ge 22, 3) := by decide +kernel
theorem dX7_isSolved_99 : decode cX7_isSolved 99 = .ok (.aload_n 0, 1) := by decide +kernel
theorem dX7_isSolved_100 : decode cX7_isSolved 100 = .ok (.getfield 38, 3) := by decide +kernel
theorem dX7_isSolved_103 : decode cX7_isSolved 103 = .ok (.iload_n 1, 1) := by decide +kernel
theorem dX7_isSolved_104 : decode cX7_isSolved 104 = .ok (.aload_n 0, 1) := by decide +kernel
theorem dX7_isSolved_105 : decode cX7_isSolved 105 = .ok (.iconst 0, 1) := by decide +kernel
theorem dX7_isSolved_106 : decode cX7_isSolved 106 = .ok (.iconst 0, 1) := by decide +kernel
theorem dX7_isSolved_107 : decode cX7_isSolved 107 = .ok (.iload_n 1, 1) := by decide +kernel
theorem dX7_isSolved_108 : decode cX7_isSolved 108 = .ok (.invokevirtual 86, 3) := by decide +kernel
theorem dX7_isSolved_111 : decode cX7_isSolved 111 = .ok (.lastore, 1) := by decide +kernel
theorem dX7_isSolved_112 : decode cX7_isSolved 112 = .ok (.iinc 1 1, 3) := by decide +kernel
theorem dX7_isSolved_115 : decode cX7_isSolved 115 = .ok (.goto (-26), 3) := by decide +kernel
theorem dX7_isSolved_118 : decode cX7_isSolved 118 = .ok (.iconst 1, 1) := by decide +kernel
theorem dX7_isSolved_119 : decode cX7_isSolved 119 = .ok (.ireturn, 1) := by decide +kernel
theorem dX7_missOf_0 : decode cX7_missOf 0 = .ok (.aload_n 0, 1) := by decide +kernel
theorem dX7_missOf_1 : decode cX7_missOf 1 = .ok (.iload_n 1, 1) := by decide +kernel
theorem dX7_missOf_2 : decode cX7_missOf 2 = .ok (.iconst 2, 1) := by decide +kernel
theorem dX7_missOf_3 : decode cX7_missOf 3 = .ok (.invokevirtual 65, 3) := by decide +kernel
theorem dX7_missOf_6 : decode cX7_missOf 6 = .ok (.ifCond .ge 7, 3) := by decide +kernel
theorem dX7_missOf_9 : decode cX7_missOf 9 = .ok (.lconst 0, 1) := by decide +kernel
theorem dX7_missOf_10 : decode cX7_missOf 10 = .ok (.goto 14, 3) := by decide +kernel
theorem dX7_missOf_13 : decode cX7_missOf 13 = .ok (.aload_n 0, 1) := by decide +kernel
theorem dX7_missOf_14 : decode cX7_missOf 14 = .ok (.getfield 38, 3) := by decide +kernel
theorem dX7_missOf_17 : decode cX7_missOf 17 = .ok (.aload_n 0, 1) := by decide +kernel
theorem dX7_missOf_18 : decode cX7_missOf 18 = .ok (.iload_n 1, 1) := by decide +kernel
theorem dX7_missOf_19 : decode cX7_missOf 19 = .ok (.iconst 2, 1) := by decide +kernel
theorem dX7_missOf_20 : decode cX7_missOf 20 = .ok (.invokevirtual 65, 3) := by decide +kernel
theorem dX7_missOf_23 : decode cX7_missOf 23 = .ok (.laload, 1) := by decide +kernel
theorem dX7_missOf_24 : decode cX7_missOf 24 = .ok (.lstore_n 2, 1) := by decide +kernel
theorem dX7_missOf_25 : decode cX7_missOf 25 = .ok (.aload_n 0, 1) := by decide +kernel
theorem dX7_missOf_26 : decode cX7_missOf 26 = .ok (.iload_n 1, 1) := by decide +kernel
theorem dX7_missOf_27 : decode cX7_missOf 27 = .ok (.invokevirtual 93, 3) := by decide +kernel
theorem dX7_missOf_30 : decode cX7_missOf 30 = .ok (.i2l, 1) := by decide +kernel
theorem dX7_missOf_31 : decode cX7_missOf 31 = .ok (.aload_n 0, 1) := by decide +kernel
theorem dX7_missOf_32 : decode cX7_missOf 32 = .ok (.getfield 108, 3) := by decide +kernel
theorem dX7_missOf_35 : decode cX7_missOf 35 = .ok (.lmul, 1) := by decide +kernel
theorem dX7_missOf_36 : decode cX7_missOf 36 = .ok (.aload_n 0, 1) := by decide +kernel
theorem dX7_missOf_37 : decode cX7_missOf 37 = .ok (.getfield 38, 3) := by decide +kernel
theorem dX7_missOf_40 : decode cX7_missOf 40 = .ok (.aload_n 0, 1) := by decide +kernel
theorem dX7_missOf_41 : decode cX7_missOf 41 = .ok (.iload_n 1, 1) := by decide +kernel
theorem dX7_missOf_42 : decode cX7_missOf 42 = .ok (.iconst 3, 1) := by decide +kernel
theorem dX7_missOf_43 : decode cX7_missOf 43 = .ok (.invokevirtual 65, 3) := by decide +kernel
theorem dX7_missOf_46 : decode cX7_missOf 46 = .ok (.laload, 1) := by decide +kernel
theorem dX7_missOf_47 : decode cX7_missOf 47 = .ok (.lsub, 1) := by decide +kernel
theorem dX7_missOf_48 : decode cX7_missOf 48 = .ok (.lload_n 2, 1) := by decide +kernel
theorem dX7_missOf_49 : decode cX7_missOf 49 = .ok (.ladd, 1) := by decide +kernel
theorem dX7_missOf_50 : decode cX7_missOf 50 = .ok (.lreturn, 1) := by decide +kernel
theorem dX7_doubt_0 : decode cX7_doubt 0 = .ok (.aload_n 0, 1) := by decide +kernel
theorem dX7_doubt_1 : decode cX7_doubt 1 = .ok (.iload_n 1, 1) := by decide +kernel
theorem dX7_doubt_2 : decode cX7_doubt 2 = .ok (.invokevirtual 112, 3) := by decide +kernel
theorem dX7_doubt_5 : decode cX7_doubt 5 = .ok (.lstore_n 2, 1) := by decide +kernel
theorem dX7_doubt_6 : decode cX7_doubt 6 = .ok (.aload_n 0, 1) := by decide +kernel
theorem dX7_doubt_7 : decode cX7_doubt 7 = .ok (.iload_n 1, 1) := by decide +kernel
theorem dX7_doubt_8 : decode cX7_doubt 8 = .ok (.invokevirtual 90, 3) := by decide +kernel
theorem dX7_doubt_11 : decode cX7_doubt 11 = .ok (.i2l, 1) := by decide +kernel
theorem dX7_doubt_12 : decode cX7_doubt 12 = .ok (.lload_n 2, 1) := by decide +kernel
theorem dX7_doubt_13 : decode cX7_doubt 13 = .ok (.lconst 0, 1) := by decide +kernel
theorem dX7_doubt_14 : decode cX7_doubt 14 = .ok (.lcmp, 1) := by decide +kernel
theorem dX7_doubt_15 : decode cX7_doubt 15 = .ok (.ifCond .ge 8, 3) := by decide +kernel
theorem dX7_doubt_18 : decode cX7_doubt 18 = .ok (.lload_n 2, 1) := by decide +kernel
theorem dX7_doubt_19 : decode cX7_doubt 19 = .ok (.lneg, 1) := by decide +kernel
theorem dX7_doubt_20 : decode cX7_doubt 20 = .ok (.goto 4, 3) := by decide +kernel
theorem dX7_doubt_23 : decode cX7_doubt 23 = .ok (.lload_n 2, 1) := by decide +kernel
theorem dX7_doubt_24 : decode cX7_doubt 24 = .ok (.lmul, 1) := by decide +kernel
theorem dX7_doubt_25 : decode cX7_doubt 25 = .ok (.lreturn, 1) := by decide +kernel
theorem dX7_mostDoubted_0 : decode cX7_mostDoubted 0 = .ok (.iconst (-1), 1) := by decide +kernel
theorem dX7_mostDoubted_1 : decode cX7_mostDoubted 1 = .ok (.istore_n 1, 1) := by decide +kernel
theorem dX7_mostDoubted_2 : decode cX7_mostDoubted 2 = .ok (.iconst 0, 1) := by decide +kernel
theorem dX7_mostDoubted_3 : decode cX7_mostDoubted 3 = .ok (.istore_n 2, 1) := by decide +kernel
theorem dX7_mostDoubted_4 : decode cX7_mostDoubted 4 = .ok (.iload_n 2, 1) := by decide +kernel
theorem dX7_mostDoubted_5 : decode cX7_mostDoubted 5 = .ok (.aload_n 0, 1) := by decide +kernel
theorem dX7_mostDoubted_6 : decode cX7_mostDoubted 6 = .ok (.getfield 9, 3) := by decide +kernel
theorem dX7_mostDoubted_9 : decode cX7_mostDoubted 9 = .ok (.iconst 2, 1) := by decide +kernel
theorem dX7_mostDoubted_10 : decode cX7_mostDoubted 10 = .ok (.iaload, 1) := by decide +kernel
theorem dX7_mostDoubted_11 : decode cX7_mostDoubted 11 = .ok (.if_icmp .ge 43, 3) := by decide +kernel
theorem dX7_mostDoubted_14 : decode cX7_mostDoubted 14 = .ok (.aload_n 0, 1) := by decide +kernel
theorem dX7_mostDoubted_15 : decode cX7_mostDoubted 15 = .ok (.iload_n 2, 1) := by decide +kernel
theorem dX7_mostDoubted_16 : decode cX7_mostDoubted 16 = .ok (.iconst 5, 1) := by decide +kernel
theorem dX7_mostDoubted_17 : decode cX7_mostDoubted 17 = .ok (.invokevirtual 65, 3) := by decide +kernel
theorem dX7_mostDoubted_20 : decode cX7_mostDoubted 20 = .ok (.iconst 1, 1) := by decide +kernel
theorem dX7_mostDoubted_21 : decode cX7_mostDoubted 21 = .ok (.if_icmp .ne 25, 3) := by decide +kernel
theorem dX7_mostDoubted_24 : decode cX7_mostDoubted 24 = .ok (.iload_n 1, 1) := by decide +kernel
theorem dX7_mostDoubted_25 : decode cX7_mostDoubted 25 = .ok (.ifCond .lt 17, 3) := by decide +kernel
theorem dX7_mostDoubted_28 : decode cX7_mostDoubted 28 = .ok (.aload_n 0, 1) := by decide +kernel
theorem dX7_mostDoubted_29 : decode cX7_mostDoubted 29 = .ok (.iload_n 2, 1) := by decide +kernel
theorem dX7_mostDoubted_30 : decode cX7_mostDoubted 30 = .ok (.invokevirtual 116, 3) := by decide +kernel
theorem dX7_mostDoubted_33 : decode cX7_mostDoubted 33 = .ok (.aload_n 0, 1) := by decide +kernel
theorem dX7_mostDoubted_34 : decode cX7_mostDoubted 34 = .ok (.iload_n 1, 1) := by decide +kernel
theorem dX7_mostDoubted_35 : decode cX7_mostDoubted 35 = .ok (.invokevirtual 116, 3) := by decide +kernel
theorem dX7_mostDoubted_38 : decode cX7_mostDoubted 38 = .ok (.lcmp, 1) := by decide +kernel
theorem dX7_mostDoubted_39 : decode cX7_mostDoubted 39 = .ok (.ifCond .le 7, 3) := by decide +kernel
theorem dX7_mostDoubted_42 : decode cX7_mostDoubted 42 = .ok (.iload_n 2, 1) := by decide +kernel
theorem dX7_mostDoubted_43 : decode cX7_mostDoubted 43 = .ok (.goto 4, 3) := by decide +kernel
theorem dX7_mostDoubted_46 : decode cX7_mostDoubted 46 = .ok (.iload_n 1, 1) := by decide +kernel
theorem dX7_mostDoubted_47 : decode cX7_mostDoubted 47 = .ok (.istore_n 1, 1) := by decide +kernel
theorem dX7_mostDoubted_48 : decode cX7_mostDoubted 48 = .ok (.iinc 2 1, 3) := by decide +kernel
theorem dX7_mostDoubted_51 : decode cX7_mostDoubted 51 = .ok (.goto (-47), 3) := by decide +kernel
theorem dX7_mostDoubted_54 : decode cX7_mostDoubted 54 = .ok (.iload_n 1, 1) := by decide +kernel
theorem dX7_mostDoubted_55 : decode cX7_mostDoubted 55 = .ok (.ireturn, 1) := by decide +kernel
theorem dX7_allMiss_0 : decode cX7_allMiss 0 = .ok (.lconst 0, 1) := by decide +kernel
theorem dX7_allMiss_1 : decode cX7_allMiss 1 = .ok (.lstore_n 1, 1) := by decide +kernel
theorem dX7_allMiss_2 : decode cX7_allMiss 2 = .ok (.iconst 0, 1) := by decide +kernel
theorem dX7_allMiss_3 : decode cX7_allMiss 3 = .ok (.istore_n 3, 1) := by decide +kernel
theorem dX7_allMiss_4 : decode cX7_allMiss 4 = .ok (.iload_n 3, 1) := by decide +kernel
theorem dX7_allMiss_5 : decode cX7_allMiss 5 = .ok (.aload_n 0, 1) := by decide +kernel
theorem dX7_allMiss_6 : decode cX7_allMiss 6 = .ok (.getfield 9, 3) := by decide +kernel
theorem dX7_allMiss_9 : decode cX7_allMiss 9 = .ok (.iconst 2, 1) := by decide +kernel
theorem dX7_allMiss_10 : decode cX7_allMiss 10 = .ok (.iaload, 1) := by decide +kernel
theorem dX7_allMiss_11 : decode cX7_allMiss 11 = .ok (.if_icmp .ge 44, 3) := by decide +kernel
theorem dX7_allMiss_14 : decode cX7_allMiss 14 = .ok (.lload_n 1, 1) := by decide +kernel
theorem dX7_allMiss_15 : decode cX7_allMiss 15 = .ok (.aload_n 0, 1) := by decide +kernel
theorem dX7_allMiss_16 : decode cX7_allMiss 16 = .ok (.iload_n 3, 1) := by decide +kernel
theorem dX7_allMiss_17 : decode cX7_allMiss 17 = .ok (.iconst 5, 1) := by decide +kernel
theorem dX7_allMiss_18 : decode cX7_allMiss 18 = .ok (.invokevirtual 65, 3) := by decide +kernel
theorem dX7_allMiss_21 : decode cX7_allMiss 21 = .ok (.iconst 1, 1) := by decide +kernel
theorem dX7_allMiss_22 : decode cX7_allMiss 22 = .ok (.if_icmp .ne 24, 3) := by decide +kernel
theorem dX7_allMiss_25 : decode cX7_allMiss 25 = .ok (.aload_n 0, 1) := by decide +kernel
theorem dX7_allMiss_26 : decode cX7_allMiss 26 = .ok (.iload_n 3, 1) := by decide +kernel
theorem dX7_allMiss_27 : decode cX7_allMiss 27 = .ok (.invokevirtual 90, 3) := by decide +kernel
theorem dX7_allMiss_30 : decode cX7_allMiss 30 = .ok (.i2l, 1) := by decide +kernel
theorem dX7_allMiss_31 : decode cX7_allMiss 31 = .ok (.aload_n 0, 1) := by decide +kernel
theorem dX7_allMiss_32 : decode cX7_allMiss 32 = .ok (.iload_n 3, 1) := by decide +kernel
theorem dX7_allMiss_33 : decode cX7_allMiss 33 = .ok (.invokevirtual 112, 3) := by decide +kernel
theorem dX7_allMiss_36 : decode cX7_allMiss 36 = .ok (.lmul, 1) := by decide +kernel
theorem dX7_allMiss_37 : decode cX7_allMiss 37 = .ok (.aload_n 0, 1) := by decide +kernel
theorem dX7_allMiss_38 : decode cX7_allMiss 38 = .ok (.iload_n 3, 1) := by decide +kernel
theorem dX7_allMiss_39 : decode cX7_allMiss 39 = .ok (.invokevirtual 112, 3) := by decide +kernel
theorem dX7_allMiss_42 : decode cX7_allMiss 42 = .ok (.lmul, 1) := by decide +kernel
theorem dX7_allMiss_43 : decode cX7_allMiss 43 = .ok (.goto 4, 3) := by decide +kernel
theorem dX7_allMiss_46 : decode cX7_allMiss 46 = .ok (.lconst 0, 1) := by decide +kernel
theorem dX7_allMiss_47 : decode cX7_allMiss 47 = .ok (.ladd, 1) := by decide +kernel
theorem dX7_allMiss_48 : decode cX7_allMiss 48 = .ok (.lstore_n 1, 1) := by decide +kernel
theorem dX7_allMiss_49 : decode cX7_allMiss 49 = .ok (.iinc 3 1, 3) := by decide +kernel
theorem dX7_allMiss_52 : decode cX7_allMiss 52 = .ok (.goto (-48), 3) := by decide +kernel
theorem dX7_allMiss_55 : decode cX7_allMiss 55 = .ok (.lload_n 1, 1) := by decide +kernel
theorem dX7_allMiss_56 : decode cX7_allMiss 56 = .ok (.lreturn, 1) := by decide +kernel
theorem dX7_inTerms_0 : decode cX7_inTerms 0 = .ok (.lload_n 0, 1) := by decide +kernel
theorem dX7_inTerms_1 : decode cX7_inTerms 1 = .ok (.lconst 0, 1) := by decide +kernel
theorem dX7_inTerms_2 : decode cX7_inTerms 2 = .ok (.lcmp, 1) := by decide +kernel
theorem dX7_inTerms_3 : decode cX7_inTerms 3 = .ok (.ifCond .ge 8, 3) := by decide +kernel
theorem dX7_inTerms_6 : decode cX7_inTerms 6 = .ok (.lload_n 0, 1) := by decide +kernel
theorem dX7_inTerms_7 : decode cX7_inTerms 7 = .ok (.lneg, 1) := by decide +kernel
theorem dX7_inTerms_8 : decode cX7_inTerms 8 = .ok (.goto 4, 3) := by decide +kernel
theorem dX7_inTerms_11 : decode cX7_inTerms 11 = .ok (.lload_n 0, 1) := by decide +kernel
theorem dX7_inTerms_12 : decode cX7_inTerms 12 = .ok (.lstore 5, 2) := by decide +kernel
theorem dX7_inTerms_14 : decode cX7_inTerms 14 = .ok (.lload_n 2, 1) := by decide +kernel
theorem dX7_inTerms_15 : decode cX7_inTerms 15 = .ok (.lstore 7, 2) := by decide +kernel
theorem dX7_inTerms_17 : decode cX7_inTerms 17 = .ok (.lload 7, 2) := by decide +kernel
theorem dX7_inTerms_19 : decode cX7_inTerms 19 = .ok (.lconst 0, 1) := by decide +kernel
theorem dX7_inTerms_20 : decode cX7_inTerms 20 = .ok (.lcmp, 1) := by decide +kernel
theorem dX7_inTerms_21 : decode cX7_inTerms 21 = .ok (.ifCond .eq 21, 3) := by decide +kernel
theorem dX7_inTerms_24 : decode cX7_inTerms 24 = .ok (.lload 5, 2) := by decide +kernel
theorem dX7_inTerms_26 : decode cX7_inTerms 26 = .ok (.lload 7, 2) := by decide +kernel
theorem dX7_inTerms_28 : decode cX7_inTerms 28 = .ok (.lrem, 1) := by decide +kernel
theorem dX7_inTerms_29 : decode cX7_inTerms 29 = .ok (.lstore 9, 2) := by decide +kernel
theorem dX7_inTerms_31 : decode cX7_inTerms 31 = .ok (.lload 7, 2) := by decide +kernel
theorem dX7_inTerms_33 : decode cX7_inTerms 33 = .ok (.lstore 5, 2) := by decide +kernel
theorem dX7_inTerms_35 : decode cX7_inTerms 35 = .ok (.lload 9, 2) := by decide +kernel
theorem dX7_inTerms_37 : decode cX7_inTerms 37 = .ok (.lstore 7, 2) := by decide +kernel
theorem dX7_inTerms_39 : decode cX7_inTerms 39 = .ok (.goto (-22), 3) := by decide +kernel
theorem dX7_inTerms_42 : decode cX7_inTerms 42 = .ok (.iload 4, 2) := by decide +kernel
theorem dX7_inTerms_44 : decode cX7_inTerms 44 = .ok (.ifCond .ne 10, 3) := by decide +kernel
theorem dX7_inTerms_47 : decode cX7_inTerms 47 = .ok (.lload_n 0, 1) := by decide +kernel
theorem dX7_inTerms_48 : decode cX7_inTerms 48 = .ok (.lload 5, 2) := by decide +kernel
theorem dX7_inTerms_50 : decode cX7_inTerms 50 = .ok (.ldiv, 1) := by decide +kernel
theorem dX7_inTerms_51 : decode cX7_inTerms 51 = .ok (.goto 7, 3) := by decide +kernel
theorem dX7_inTerms_54 : decode cX7_inTerms 54 = .ok (.lload_n 2, 1) := by decide +kernel
theorem dX7_inTerms_55 : decode cX7_inTerms 55 = .ok (.lload 5, 2) := by decide +kernel
theorem dX7_inTerms_57 : decode cX7_inTerms 57 = .ok (.ldiv, 1) := by decide +kernel
theorem dX7_inTerms_58 : decode cX7_inTerms 58 = .ok (.lreturn, 1) := by decide +kernel
theorem dX7_isKm_0 : decode cX7_isKm 0 = .ok (.iload_n 0, 1) := by decide +kernel
theorem dX7_isKm_1 : decode cX7_isKm 1 = .ok (.iconst 0, 1) := by decide +kernel
theorem dX7_isKm_2 : decode cX7_isKm 2 = .ok (.bipush 69, 2) := by decide +kernel
theorem dX7_isKm_4 : decode cX7_isKm 4 = .ok (.invokestatic 61, 3) := by decide +kernel
theorem dX7_isKm_7 : decode cX7_isKm 7 = .ok (.ireturn, 1) := by decide +kernel
theorem dX7_mark_0 : decode cX7_mark 0 = .ok (.iload_n 1, 1) := by decide +kernel
theorem dX7_mark_1 : decode cX7_mark 1 = .ok (.invokestatic 119, 3) := by decide +kernel
theorem dX7_mark_4 : decode cX7_mark 4 = .ok (.ifCond .eq 41, 3) := by decide +kernel
theorem dX7_mark_7 : decode cX7_mark 7 = .ok (.iload_n 2, 1) := by decide +kernel
theorem dX7_mark_8 : decode cX7_mark 8 = .ok (.iconst (-1), 1) := by decide +kernel
theorem dX7_mark_9 : decode cX7_mark 9 = .ok (.if_icmp .eq 11, 3) := by decide +kernel
theorem dX7_mark_12 : decode cX7_mark 12 = .ok (.aload_n 0, 1) := by decide +kernel
theorem dX7_mark_13 : decode cX7_mark 13 = .ok (.iload_n 2, 1) := by decide +kernel
theorem dX7_mark_14 : decode cX7_mark 14 = .ok (.invokevirtual 122, 3) := by decide +kernel
theorem dX7_mark_17 : decode cX7_mark 17 = .ok (.ifCond .eq 28, 3) := by decide +kernel
theorem dX7_mark_20 : decode cX7_mark 20 = .ok (.aload_n 0, 1) := by decide +kernel
theorem dX7_mark_21 : decode cX7_mark 21 = .ok (.iload_n 3, 1) := by decide +kernel
theorem dX7_mark_22 : decode cX7_mark 22 = .ok (.invokevirtual 122, 3) := by decide +kernel
theorem dX7_mark_25 : decode cX7_mark 25 = .ok (.ifCond .eq 20, 3) := by decide +kernel
theorem dX7_mark_28 : decode cX7_mark 28 = .ok (.iload_n 2, 1) := by decide +kernel
theorem dX7_mark_29 : decode cX7_mark 29 = .ok (.iload_n 3, 1) := by decide +kernel
theorem dX7_mark_30 : decode cX7_mark 30 = .ok (.if_icmp .eq 15, 3) := by decide +kernel
theorem dX7_mark_33 : decode cX7_mark 33 = .ok (.iload 4, 2) := by decide +kernel
theorem dX7_mark_35 : decode cX7_mark 35 = .ok (.bipush (-20), 2) := by decide +kernel
theorem dX7_mark_37 : decode cX7_mark 37 = .ok (.bipush 20, 2) := by decide +kernel
theorem dX7_mark_39 : decode cX7_mark 39 = .ok (.invokestatic 61, 3) := by decide +kernel
theorem dX7_mark_42 : decode cX7_mark 42 = .ok (.ifCond .ne 10, 3) := by decide +kernel
theorem dX7_mark_45 : decode cX7_mark 45 = .ok (.aload_n 0, 1) := by decide +kernel
theorem dX7_mark_46 : decode cX7_mark 46 = .ok (.ldc 125, 2) := by decide +kernel
theorem dX7_mark_48 : decode cX7_mark 48 = .ok (.invokevirtual 126, 3) := by decide +kernel
theorem dX7_mark_51 : decode cX7_mark 51 = .ok (.ireturn, 1) := by decide +kernel
theorem dX7_mark_52 : decode cX7_mark 52 = .ok (.aload_n 0, 1) := by decide +kernel
theorem dX7_mark_53 : decode cX7_mark 53 = .ok (.getfield 9, 3) := by decide +kernel
theorem dX7_mark_56 : decode cX7_mark 56 = .ok (.iconst 2, 1) := by decide +kernel
theorem dX7_mark_57 : decode cX7_mark 57 = .ok (.iaload, 1) := by decide +kernel
theorem dX7_mark_58 : decode cX7_mark 58 = .ok (.istore 5, 2) := by decide +kernel
theorem dX7_mark_60 : decode cX7_mark 60 = .ok (.iload 5, 2) := by decide +kernel
theorem dX7_mark_62 : decode cX7_mark 62 = .ok (.bipush 8, 2) := by decide +kernel
theorem dX7_mark_64 : decode cX7_mark 64 = .ok (.if_icmp .ne 10, 3) := by decide +kernel
theorem dX7_mark_67 : decode cX7_mark 67 = .ok (.aload_n 0, 1) := by decide +kernel
theorem dX7_mark_68 : decode cX7_mark 68 = .ok (.ldc 129, 2) := by decide +kernel
theorem dX7_mark_70 : decode cX7_mark 70 = .ok (.invokevirtual 126, 3) := by decide +kernel
theorem dX7_mark_73 : decode cX7_mark 73 = .ok (.ireturn, 1) := by decide +kernel
theorem dX7_mark_74 : decode cX7_mark 74 = .ok (.aload_n 0, 1) := by decide +kernel
theorem dX7_mark_75 : decode cX7_mark 75 = .ok (.getfield 9, 3) := by decide +kernel
theorem dX7_mark_78 : decode cX7_mark 78 = .ok (.iconst 2, 1) := by decide +kernel
theorem dX7_mark_79 : decode cX7_mark 79 = .ok (.dup2, 1) := by decide +kernel
theorem dX7_mark_80 : decode cX7_mark 80 = .ok (.iaload, 1) := by decide +kernel
theorem dX7_mark_81 : decode cX7_mark 81 = .ok (.iconst 1, 1) := by decide +kernel
theorem dX7_mark_82 : decode cX7_mark 82 = .ok (.iadd, 1) := by decide +kernel
theorem dX7_mark_83 : decode cX7_mark 83 = .ok (.iastore, 1) := by decide +kernel
theorem dX7_mark_84 : decode cX7_mark 84 = .ok (.aload_n 0, 1) := by decide +kernel
theorem dX7_mark_85 : decode cX7_mark 85 = .ok (.iload 5, 2) := by decide +kernel
theorem dX7_mark_87 : decode cX7_mark 87 = .ok (.iconst 0, 1) := by decide +kernel
theorem dX7_mark_88 : decode cX7_mark 88 = .ok (.iload_n 1, 1) := by decide +kernel
theorem dX7_mark_89 : decode cX7_mark 89 = .ok (.bipush 10, 2) := by decide +kernel
theorem dX7_mark_91 : decode cX7_mark 91 = .ok (.idiv, 1) := by decide +kernel
theorem dX7_mark_92 : decode cX7_mark 92 = .ok (.invokevirtual 130, 3) := by decide +kernel
theorem dX7_mark_95 : decode cX7_mark 95 = .ok (.aload_n 0, 1) := by decide +kernel
theorem dX7_mark_96 : decode cX7_mark 96 = .ok (.iload 5, 2) := by decide +kernel
theorem dX7_mark_98 : decode cX7_mark 98 = .ok (.iconst 1, 1) := by decide +kernel
theorem dX7_mark_99 : decode cX7_mark 99 = .ok (.iload_n 1, 1) := by decide +kernel
theorem dX7_mark_100 : decode cX7_mark 100 = .ok (.bipush 10, 2) := by decide +kernel
theorem dX7_mark_102 : decode cX7_mark 102 = .ok (.irem, 1) := by decide +kernel
theorem dX7_mark_103 : decode cX7_mark 103 = .ok (.invokevirtual 130, 3) := by decide +kernel
theorem dX7_mark_106 : decode cX7_mark 106 = .ok (.aload_n 0, 1) := by decide +kernel
theorem dX7_mark_107 : decode cX7_mark 107 = .ok (.iload 5, 2) := by decide +kernel
theorem dX7_mark_109 : decode cX7_mark 109 = .ok (.iconst 2, 1) := by decide +kernel
theorem dX7_mark_110 : decode cX7_mark 110 = .ok (.iload_n 2, 1) := by decide +kernel
theorem dX7_mark_111 : decode cX7_mark 111 = .ok (.invokevirtual 130, 3) := by decide +kernel
theorem dX7_mark_114 : decode cX7_mark 114 = .ok (.aload_n 0, 1) := by decide +kernel
theorem dX7_mark_115 : decode cX7_mark 115 = .ok (.iload 5, 2) := by decide +kernel
theorem dX7_mark_117 : decode cX7_mark 117 = .ok (.iconst 3, 1) := by decide +kernel
theorem dX7_mark_118 : decode cX7_mark 118 = .ok (.iload_n 3, 1) := by decide +kernel
theorem dX7_mark_119 : decode cX7_mark 119 = .ok (.invokevirtual 130, 3) := by decide +kernel
theorem dX7_mark_122 : decode cX7_mark 122 = .ok (.aload_n 0, 1) := by decide +kernel
theorem dX7_mark_123 : decode cX7_mark 123 = .ok (.iload 5, 2) := by decide +kernel
theorem dX7_mark_125 : decode cX7_mark 125 = .ok (.iconst 4, 1) := by decide +kernel
theorem dX7_mark_126 : decode cX7_mark 126 = .ok (.iload 4, 2) := by decide +kernel
theorem dX7_mark_128 : decode cX7_mark 128 = .ok (.invokevirtual 130, 3) := by decide +kernel
theorem dX7_mark_131 : decode cX7_mark 131 = .ok (.aload_n 0, 1) := by decide +kernel
theorem dX7_mark_132 : decode cX7_mark 132 = .ok (.iload 5, 2) := by decide +kernel
theorem dX7_mark_134 : decode cX7_mark 134 = .ok (.iconst 5, 1) := by decide +kernel
theorem dX7_mark_135 : decode cX7_mark 135 = .ok (.iconst 1, 1) := by decide +kernel
theorem dX7_mark_136 : decode cX7_mark 136 = .ok (.invokevirtual 130, 3) := by decide +kernel
theorem dX7_mark_139 : decode cX7_mark 139 = .ok (.iload 5, 2) := by decide +kernel
theorem dX7_mark_141 : decode cX7_mark 141 = .ok (.ireturn, 1) := by decide +kernel
theorem dX7_markIs_0 : decode cX7_markIs 0 = .ok (.aload_n 0, 1) := by decide +kernel
theorem dX7_markIs_1 : decode cX7_markIs 1 = .ok (.iload_n 1, 1) := by decide +kernel
theorem dX7_markIs_2 : decode cX7_markIs 2 = .ok (.invokevirtual 134, 3) := by decide +kernel
theorem dX7_markIs_5 : decode cX7_markIs 5 = .ok (.ifCond .eq 13, 3) := by decide +kernel
theorem dX7_markIs_8 : decode cX7_markIs 8 = .ok (.iload_n 2, 1) := by decide +kernel
theorem dX7_markIs_9 : decode cX7_markIs 9 = .ok (.iconst 0, 1) := by decide +kernel
theorem dX7_markIs_10 : decode cX7_markIs 10 = .ok (.bipush 7, 2) := by decide +kernel
theorem dX7_markIs_12 : decode cX7_markIs 12 = .ok (.invokestatic 61, 3) := by decide +kernel
theorem dX7_markIs_15 : decode cX7_markIs 15 = .ok (.ifCond .ne 10, 3) := by decide +kernel
theorem dX7_markIs_18 : decode cX7_markIs 18 = .ok (.aload_n 0, 1) := by decide +kernel
theorem dX7_markIs_19 : decode cX7_markIs 19 = .ok (.ldc 125, 2) := by decide +kernel
theorem dX7_markIs_21 : decode cX7_markIs 21 = .ok (.invokevirtual 126, 3) := by decide +kernel
theorem dX7_markIs_24 : decode cX7_markIs 24 = .ok (.ireturn, 1) := by decide +kernel
theorem dX7_markIs_25 : decode cX7_markIs 25 = .ok (.iload_n 2, 1) := by decide +kernel
theorem dX7_markIs_26 : decode cX7_markIs 26 = .ok (.bipush 6, 2) := by decide +kernel
theorem dX7_markIs_28 : decode cX7_markIs 28 = .ok (.if_icmp .ge 12, 3) := by decide +kernel
theorem dX7_markIs_31 : decode cX7_markIs 31 = .ok (.aload_n 0, 1) := by decide +kernel
theorem dX7_markIs_32 : decode cX7_markIs 32 = .ok (.iload_n 1, 1) := by decide +kernel
theorem dX7_markIs_33 : decode cX7_markIs 33 = .ok (.iload_n 2, 1) := by decide +kernel
theorem dX7_markIs_34 : decode cX7_markIs 34 = .ok (.invokevirtual 65, 3) := by decide +kernel
theorem dX7_markIs_37 : decode cX7_markIs 37 = .ok (.goto 22, 3) := by decide +kernel
theorem dX7_markIs_40 : decode cX7_markIs 40 = .ok (.iload_n 2, 1) := by decide +kernel
theorem dX7_markIs_41 : decode cX7_markIs 41 = .ok (.bipush 6, 2) := by decide +kernel
theorem dX7_markIs_43 : decode cX7_markIs 43 = .ok (.if_icmp .ne 11, 3) := by decide +kernel
theorem dX7_markIs_46 : decode cX7_markIs 46 = .ok (.aload_n 0, 1) := by decide +kernel
theorem dX7_markIs_47 : decode cX7_markIs 47 = .ok (.iload_n 1, 1) := by decide +kernel
theorem dX7_markIs_48 : decode cX7_markIs 48 = .ok (.invokevirtual 90, 3) := by decide +kernel
theorem dX7_markIs_51 : decode cX7_markIs 51 = .ok (.goto 8, 3) := by decide +kernel
theorem dX7_markIs_54 : decode cX7_markIs 54 = .ok (.aload_n 0, 1) := by decide +kernel
theorem dX7_markIs_55 : decode cX7_markIs 55 = .ok (.iload_n 1, 1) := by decide +kernel
theorem dX7_markIs_56 : decode cX7_markIs 56 = .ok (.invokevirtual 93, 3) := by decide +kernel
theorem dX7_markIs_59 : decode cX7_markIs 59 = .ok (.ireturn, 1) := by decide +kernel
theorem dX7_become_0 : decode cX7_become 0 = .ok (.aload_n 0, 1) := by decide +kernel
theorem dX7_become_1 : decode cX7_become 1 = .ok (.iload_n 1, 1) := by decide +kernel
theorem dX7_become_2 : decode cX7_become 2 = .ok (.invokevirtual 134, 3) := by decide +kernel
theorem dX7_become_5 : decode cX7_become 5 = .ok (.ifCond .eq 10, 3) := by decide +kernel
theorem dX7_become_8 : decode cX7_become 8 = .ok (.iload_n 2, 1) := by decide +kernel
theorem dX7_become_9 : decode cX7_become 9 = .ok (.invokestatic 119, 3) := by decide +kernel
theorem dX7_become_12 : decode cX7_become 12 = .ok (.ifCond .ne 10, 3) := by decide +kernel
theorem dX7_become_15 : decode cX7_become 15 = .ok (.aload_n 0, 1) := by decide +kernel
theorem dX7_become_16 : decode cX7_become 16 = .ok (.ldc 125, 2) := by decide +kernel
theorem dX7_become_18 : decode cX7_become 18 = .ok (.invokevirtual 126, 3) := by decide +kernel
theorem dX7_become_21 : decode cX7_become 21 = .ok (.ireturn, 1) := by decide +kernel
theorem dX7_become_22 : decode cX7_become 22 = .ok (.aload_n 0, 1) := by decide +kernel
theorem dX7_become_23 : decode cX7_become 23 = .ok (.iload_n 1, 1) := by decide +kernel
theorem dX7_become_24 : decode cX7_become 24 = .ok (.iconst 1, 1) := by decide +kernel
theorem dX7_become_25 : decode cX7_become 25 = .ok (.iload_n 2, 1) := by decide +kernel
theorem dX7_become_26 : decode cX7_become 26 = .ok (.bipush 10, 2) := by decide +kernel
theorem dX7_become_28 : decode cX7_become 28 = .ok (.irem, 1) := by decide +kernel
theorem dX7_become_29 : decode cX7_become 29 = .ok (.invokevirtual 130, 3) := by decide +kernel
theorem dX7_become_32 : decode cX7_become 32 = .ok (.aload_n 0, 1) := by decide +kernel
theorem dX7_become_33 : decode cX7_become 33 = .ok (.bipush 8, 2) := by decide +kernel
theorem dX7_become_35 : decode cX7_become 35 = .ok (.bipush 6, 2) := by decide +kernel
theorem dX7_become_37 : decode cX7_become 37 = .ok (.iload_n 1, 1) := by decide +kernel
theorem dX7_become_38 : decode cX7_become 38 = .ok (.imul, 1) := by decide +kernel
theorem dX7_become_39 : decode cX7_become 39 = .ok (.iadd, 1) := by decide +kernel
theorem dX7_become_40 : decode cX7_become 40 = .ok (.iload_n 2, 1) := by decide +kernel
theorem dX7_become_41 : decode cX7_become 41 = .ok (.bipush 10, 2) := by decide +kernel
theorem dX7_become_43 : decode cX7_become 43 = .ok (.idiv, 1) := by decide +kernel
theorem dX7_become_44 : decode cX7_become 44 = .ok (.invokevirtual 137, 3) := by decide +kernel
theorem dX7_become_47 : decode cX7_become 47 = .ok (.ireturn, 1) := by decide +kernel
theorem dX7_as_0 : decode cX7_as 0 = .ok (.aload_n 0, 1) := by decide +kernel
theorem dX7_as_1 : decode cX7_as 1 = .ok (.iload_n 1, 1) := by decide +kernel
theorem dX7_as_2 : decode cX7_as 2 = .ok (.invokevirtual 134, 3) := by decide +kernel
theorem dX7_as_5 : decode cX7_as 5 = .ok (.ifCond .eq 13, 3) := by decide +kernel
theorem dX7_as_8 : decode cX7_as 8 = .ok (.iload_n 2, 1) := by decide +kernel
theorem dX7_as_9 : decode cX7_as 9 = .ok (.iconst 0, 1) := by decide +kernel
theorem dX7_as_10 : decode cX7_as 10 = .ok (.bipush 6, 2) := by decide +kernel
theorem dX7_as_12 : decode cX7_as 12 = .ok (.invokestatic 61, 3) := by decide +kernel
theorem dX7_as_15 : decode cX7_as 15 = .ok (.ifCond .ne 10, 3) := by decide +kernel
theorem dX7_as_18 : decode cX7_as 18 = .ok (.aload_n 0, 1) := by decide +kernel
theorem dX7_as_19 : decode cX7_as 19 = .ok (.ldc 125, 2) := by decide +kernel
theorem dX7_as_21 : decode cX7_as 21 = .ok (.invokevirtual 126, 3) := by decide +kernel
theorem dX7_as_24 : decode cX7_as 24 = .ok (.ireturn, 1) := by decide +kernel
theorem dX7_as_25 : decode cX7_as 25 = .ok (.aload_n 0, 1) := by decide +kernel
theorem dX7_as_26 : decode cX7_as 26 = .ok (.iload_n 1, 1) := by decide +kernel
theorem dX7_as_27 : decode cX7_as 27 = .ok (.iconst 0, 1) := by decide +kernel
theorem dX7_as_28 : decode cX7_as 28 = .ok (.invokevirtual 65, 3) := by decide +kernel
theorem dX7_as_31 : decode cX7_as 31 = .ok (.istore_n 3, 1) := by decide +kernel
theorem dX7_as_32 : decode cX7_as 32 = .ok (.iload_n 2, 1) := by decide +kernel
theorem dX7_as_33 : decode cX7_as 33 = .ok (.ifCond .eq 28, 3) := by decide +kernel
theorem dX7_as_36 : decode cX7_as 36 = .ok (.iload_n 2, 1) := by decide +kernel
theorem dX7_as_37 : decode cX7_as 37 = .ok (.iload_n 3, 1) := by decide +kernel
theorem dX7_as_38 : decode cX7_as 38 = .ok (.if_icmp .eq 23, 3) := by decide +kernel
theorem dX7_as_41 : decode cX7_as 41 = .ok (.iload_n 2, 1) := by decide +kernel
theorem dX7_as_42 : decode cX7_as 42 = .ok (.iconst 1, 1) := by decide +kernel
theorem dX7_as_43 : decode cX7_as 43 = .ok (.if_icmp .ne 8, 3) := by decide +kernel
theorem dX7_as_46 : decode cX7_as 46 = .ok (.iload_n 3, 1) := by decide +kernel
theorem dX7_as_47 : decode cX7_as 47 = .ok (.iconst 4, 1) := by decide +kernel
theorem dX7_as_48 : decode cX7_as 48 = .ok (.if_icmp .eq 13, 3) := by decide +kernel
theorem dX7_as_51 : decode cX7_as 51 = .ok (.iload_n 2, 1) := by decide +kernel
theorem dX7_as_52 : decode cX7_as 52 = .ok (.iconst 2, 1) := by decide +kernel
theorem dX7_as_53 : decode cX7_as 53 = .ok (.if_icmp .ne 12, 3) := by decide +kernel
theorem dX7_as_56 : decode cX7_as 56 = .ok (.iload_n 3, 1) := by decide +kernel
theorem dX7_as_57 : decode cX7_as 57 = .ok (.iconst 5, 1) := by decide +kernel
theorem dX7_as_58 : decode cX7_as 58 = .ok (.if_icmp .ne 7, 3) := by decide +kernel
theorem dX7_as_61 : decode cX7_as 61 = .ok (.iconst 1, 1) := by decide +kernel
theorem dX7_as_62 : decode cX7_as 62 = .ok (.goto 4, 3) := by decide +kernel
theorem dX7_as_65 : decode cX7_as 65 = .ok (.iconst 0, 1) := by decide +kernel
theorem dX7_as_66 : decode cX7_as 66 = .ok (.istore 4, 2) := by decide +kernel
theorem dX7_as_68 : decode cX7_as 68 = .ok (.iload 4, 2) := by decide +kernel
theorem dX7_as_70 : decode cX7_as 70 = .ok (.ifCond .eq 12, 3) := by decide +kernel
theorem dX7_as_73 : decode cX7_as 73 = .ok (.aload_n 0, 1) := by decide +kernel
theorem dX7_as_74 : decode cX7_as 74 = .ok (.iload_n 1, 1) := by decide +kernel
theorem dX7_as_75 : decode cX7_as 75 = .ok (.iconst 1, 1) := by decide +kernel
theorem dX7_as_76 : decode cX7_as 76 = .ok (.invokevirtual 65, 3) := by decide +kernel
theorem dX7_as_79 : decode cX7_as 79 = .ok (.goto 9, 3) := by decide +kernel
theorem dX7_as_82 : decode cX7_as 82 = .ok (.aload_n 0, 1) := by decide +kernel
theorem dX7_as_83 : decode cX7_as 83 = .ok (.ldc 140, 2) := by decide +kernel
theorem dX7_as_85 : decode cX7_as 85 = .ok (.invokevirtual 126, 3) := by decide +kernel
theorem dX7_as_88 : decode cX7_as 88 = .ok (.ireturn, 1) := by decide +kernel
theorem dX7_measure_0 : decode cX7_measure 0 = .ok (.aload_n 0, 1) := by decide +kernel
theorem dX7_measure_1 : decode cX7_measure 1 = .ok (.iload_n 1, 1) := by decide +kernel
theorem dX7_measure_2 : decode cX7_measure 2 = .ok (.invokevirtual 134, 3) := by decide +kernel
theorem dX7_measure_5 : decode cX7_measure 5 = .ok (.ifCond .eq 31, 3) := by decide +kernel
theorem dX7_measure_8 : decode cX7_measure 8 = .ok (.iload_n 2, 1) := by decide +kernel
theorem dX7_measure_9 : decode cX7_measure 9 = .ok (.bipush (-20), 2) := by decide +kernel
theorem dX7_measure_11 : decode cX7_measure 11 = .ok (.bipush 20, 2) := by decide +kernel
theorem dX7_measure_13 : decode cX7_measure 13 = .ok (.invokestatic 61, 3) := by decide +kernel
theorem dX7_measure_16 : decode cX7_measure 16 = .ok (.ifCond .eq 20, 3) := by decide +kernel
theorem dX7_measure_19 : decode cX7_measure 19 = .ok (.aload_n 0, 1) := by decide +kernel
theorem dX7_measure_20 : decode cX7_measure 20 = .ok (.bipush 8, 2) := by decide +kernel
theorem dX7_measure_22 : decode cX7_measure 22 = .ok (.bipush 6, 2) := by decide +kernel
theorem dX7_measure_24 : decode cX7_measure 24 = .ok (.iload_n 1, 1) := by decide +kernel
theorem dX7_measure_25 : decode cX7_measure 25 = .ok (.imul, 1) := by decide +kernel
theorem dX7_measure_26 : decode cX7_measure 26 = .ok (.iadd, 1) := by decide +kernel
theorem dX7_measure_27 : decode cX7_measure 27 = .ok (.iconst 4, 1) := by decide +kernel
theorem dX7_measure_28 : decode cX7_measure 28 = .ok (.iadd, 1) := by decide +kernel
theorem dX7_measure_29 : decode cX7_measure 29 = .ok (.iload_n 2, 1) := by decide +kernel
theorem dX7_measure_30 : decode cX7_measure 30 = .ok (.invokevirtual 137, 3) := by decide +kernel
theorem dX7_measure_33 : decode cX7_measure 33 = .ok (.goto 9, 3) := by decide +kernel
theorem dX7_measure_36 : decode cX7_measure 36 = .ok (.aload_n 0, 1) := by decide +kernel
theorem dX7_measure_37 : decode cX7_measure 37 = .ok (.ldc 125, 2) := by decide +kernel
theorem dX7_measure_39 : decode cX7_measure 39 = .ok (.invokevirtual 126, 3) := by decide +kernel
theorem dX7_measure_42 : decode cX7_measure 42 = .ok (.ireturn, 1) := by decide +kernel
theorem dX7_on_0 : decode cX7_on 0 = .ok (.aload_n 0, 1) := by decide +kernel
theorem dX7_on_1 : decode cX7_on 1 = .ok (.iload_n 1, 1) := by decide +kernel
theorem dX7_on_2 : decode cX7_on 2 = .ok (.invokevirtual 134, 3) := by decide +kernel
theorem dX7_on_5 : decode cX7_on 5 = .ok (.ifCond .eq 29, 3) := by decide +kernel
theorem dX7_on_8 : decode cX7_on 8 = .ok (.iload_n 2, 1) := by decide +kernel
theorem dX7_on_9 : decode cX7_on 9 = .ok (.iconst 0, 1) := by decide +kernel
theorem dX7_on_10 : decode cX7_on 10 = .ok (.iconst 1, 1) := by decide +kernel
theorem dX7_on_11 : decode cX7_on 11 = .ok (.invokestatic 61, 3) := by decide +kernel
theorem dX7_on_14 : decode cX7_on 14 = .ok (.ifCond .eq 20, 3) := by decide +kernel
theorem dX7_on_17 : decode cX7_on 17 = .ok (.aload_n 0, 1) := by decide +kernel
theorem dX7_on_18 : decode cX7_on 18 = .ok (.bipush 8, 2) := by decide +kernel
theorem dX7_on_20 : decode cX7_on 20 = .ok (.bipush 6, 2) := by decide +kernel
theorem dX7_on_22 : decode cX7_on 22 = .ok (.iload_n 1, 1) := by decide +kernel
theorem dX7_on_23 : decode cX7_on 23 = .ok (.imul, 1) := by decide +kernel
theorem dX7_on_24 : decode cX7_on 24 = .ok (.iadd, 1) := by decide +kernel
theorem dX7_on_25 : decode cX7_on 25 = .ok (.iconst 5, 1) := by decide +kernel
theorem dX7_on_26 : decode cX7_on 26 = .ok (.iadd, 1) := by decide +kernel
theorem dX7_on_27 : decode cX7_on 27 = .ok (.iload_n 2, 1) := by decide +kernel
theorem dX7_on_28 : decode cX7_on 28 = .ok (.invokevirtual 137, 3) := by decide +kernel
theorem dX7_on_31 : decode cX7_on 31 = .ok (.goto 9, 3) := by decide +kernel
theorem dX7_on_34 : decode cX7_on 34 = .ok (.aload_n 0, 1) := by decide +kernel
theorem dX7_on_35 : decode cX7_on 35 = .ok (.ldc 125, 2) := by decide +kernel
theorem dX7_on_37 : decode cX7_on 37 = .ok (.invokevirtual 126, 3) := by decide +kernel
theorem dX7_on_40 : decode cX7_on 40 = .ok (.ireturn, 1) := by decide +kernel
theorem dX7_pictures_0 : decode cX7_pictures 0 = .ok (.iload_n 1, 1) := by decide +kernel
theorem dX7_pictures_1 : decode cX7_pictures 1 = .ok (.iconst 1, 1) := by decide +kernel
theorem dX7_pictures_2 : decode cX7_pictures 2 = .ok (.iconst 4, 1) := by decide +kernel
theorem dX7_pictures_3 : decode cX7_pictures 3 = .ok (.invokestatic 61, 3) := by decide +kernel
theorem dX7_pictures_6 : decode cX7_pictures 6 = .ok (.ifCond .ne 10, 3) := by decide +kernel
theorem dX7_pictures_9 : decode cX7_pictures 9 = .ok (.aload_n 0, 1) := by decide +kernel
theorem dX7_pictures_10 : decode cX7_pictures 10 = .ok (.ldc 125, 2) := by decide +kernel
theorem dX7_pictures_12 : decode cX7_pictures 12 = .ok (.invokevirtual 126, 3) := by decide +kernel
theorem dX7_pictures_15 : decode cX7_pictures 15 = .ok (.ireturn, 1) := by decide +kernel
theorem dX7_pictures_16 : decode cX7_pictures 16 = .ok (.iconst 1, 1) := by decide +kernel
theorem dX7_pictures_17 : decode cX7_pictures 17 = .ok (.istore_n 2, 1) := by decide +kernel
theorem dX7_pictures_18 : decode cX7_pictures 18 = .ok (.iconst 0, 1) := by decide +kernel
theorem dX7_pictures_19 : decode cX7_pictures 19 = .ok (.istore_n 3, 1) := by decide +kernel
theorem dX7_pictures_20 : decode cX7_pictures 20 = .ok (.iload_n 3, 1) := by decide +kernel
theorem dX7_pictures_21 : decode cX7_pictures 21 = .ok (.aload_n 0, 1) := by decide +kernel
theorem dX7_pictures_22 : decode cX7_pictures 22 = .ok (.getfield 9, 3) := by decide +kernel
theorem dX7_pictures_25 : decode cX7_pictures 25 = .ok (.iconst 2, 1) := by decide +kernel
theorem dX7_pictures_26 : decode cX7_pictures 26 = .ok (.iaload, 1) := by decide +kernel
theorem dX7_pictures_27 : decode cX7_pictures 27 = .ok (.if_icmp .ge 39, 3) := by decide +kernel
theorem dX7_pictures_30 : decode cX7_pictures 30 = .ok (.iload_n 2, 1) := by decide +kernel
theorem dX7_pictures_31 : decode cX7_pictures 31 = .ok (.ifCond .eq 27, 3) := by decide +kernel
theorem dX7_pictures_34 : decode cX7_pictures 34 = .ok (.aload_n 0, 1) := by decide +kernel
theorem dX7_pictures_35 : decode cX7_pictures 35 = .ok (.iload_n 3, 1) := by decide +kernel
theorem dX7_pictures_36 : decode cX7_pictures 36 = .ok (.iconst 2, 1) := by decide +kernel
theorem dX7_pictures_37 : decode cX7_pictures 37 = .ok (.invokevirtual 65, 3) := by decide +kernel
theorem dX7_pictures_40 : decode cX7_pictures 40 = .ok (.iload_n 1, 1) := by decide +kernel
theorem dX7_pictures_41 : decode cX7_pictures 41 = .ok (.if_icmp .ge 17, 3) := by decide +kernel
theorem dX7_pictures_44 : decode cX7_pictures 44 = .ok (.aload_n 0, 1) := by decide +kernel
theorem dX7_pictures_45 : decode cX7_pictures 45 = .ok (.iload_n 3, 1) := by decide +kernel
theorem dX7_pictures_46 : decode cX7_pictures 46 = .ok (.iconst 3, 1) := by decide +kernel
theorem dX7_pictures_47 : decode cX7_pictures 47 = .ok (.invokevirtual 65, 3) := by decide +kernel
theorem dX7_pictures_50 : decode cX7_pictures 50 = .ok (.iload_n 1, 1) := by decide +kernel
theorem dX7_pictures_51 : decode cX7_pictures 51 = .ok (.if_icmp .ge 7, 3) := by decide +kernel
theorem dX7_pictures_54 : decode cX7_pictures 54 = .ok (.iconst 1, 1) := by decide +kernel
theorem dX7_pictures_55 : decode cX7_pictures 55 = .ok (.goto 4, 3) := by decide +kernel
theorem dX7_pictures_58 : decode cX7_pictures 58 = .ok (.iconst 0, 1) := by decide +kernel
theorem dX7_pictures_59 : decode cX7_pictures 59 = .ok (.istore_n 2, 1) := by decide +kernel
theorem dX7_pictures_60 : decode cX7_pictures 60 = .ok (.iinc 3 1, 3) := by decide +kernel
theorem dX7_pictures_63 : decode cX7_pictures 63 = .ok (.goto (-43), 3) := by decide +kernel
theorem dX7_pictures_66 : decode cX7_pictures 66 = .ok (.iload_n 2, 1) := by decide +kernel
theorem dX7_pictures_67 : decode cX7_pictures 67 = .ok (.ifCond .eq 12, 3) := by decide +kernel
theorem dX7_pictures_70 : decode cX7_pictures 70 = .ok (.aload_n 0, 1) := by decide +kernel
theorem dX7_pictures_71 : decode cX7_pictures 71 = .ok (.iconst 3, 1) := by decide +kernel
theorem dX7_pictures_72 : decode cX7_pictures 72 = .ok (.iload_n 1, 1) := by decide +kernel
theorem dX7_pictures_73 : decode cX7_pictures 73 = .ok (.invokevirtual 137, 3) := by decide +kernel
theorem dX7_pictures_76 : decode cX7_pictures 76 = .ok (.goto 9, 3) := by decide +kernel
theorem dX7_pictures_79 : decode cX7_pictures 79 = .ok (.aload_n 0, 1) := by decide +kernel
theorem dX7_pictures_80 : decode cX7_pictures 80 = .ok (.ldc 141, 2) := by decide +kernel
theorem dX7_pictures_82 : decode cX7_pictures 82 = .ok (.invokevirtual 126, 3) := by decide +kernel
theorem dX7_pictures_85 : decode cX7_pictures 85 = .ok (.ireturn, 1) := by decide +kernel
theorem dX7_limit_0 : decode cX7_limit 0 = .ok (.iload_n 1, 1) := by decide +kernel
theorem dX7_limit_1 : decode cX7_limit 1 = .ok (.iconst 0, 1) := by decide +kernel
theorem dX7_limit_2 : decode cX7_limit 2 = .ok (.bipush 99, 2) := by decide +kernel
theorem dX7_limit_4 : decode cX7_limit 4 = .ok (.invokestatic 61, 3) := by decide +kernel
theorem dX7_limit_7 : decode cX7_limit 7 = .ok (.ifCond .eq 12, 3) := by decide +kernel
theorem dX7_limit_10 : decode cX7_limit 10 = .ok (.aload_n 0, 1) := by decide +kernel
theorem dX7_limit_11 : decode cX7_limit 11 = .ok (.iconst 4, 1) := by decide +kernel
theorem dX7_limit_12 : decode cX7_limit 12 = .ok (.iload_n 1, 1) := by decide +kernel
theorem dX7_limit_13 : decode cX7_limit 13 = .ok (.invokevirtual 137, 3) := by decide +kernel
theorem dX7_limit_16 : decode cX7_limit 16 = .ok (.goto 9, 3) := by decide +kernel
theorem dX7_limit_19 : decode cX7_limit 19 = .ok (.aload_n 0, 1) := by decide +kernel
theorem dX7_limit_20 : decode cX7_limit 20 = .ok (.ldc 125, 2) := by decide +kernel
theorem dX7_limit_22 : decode cX7_limit 22 = .ok (.invokevirtual 126, 3) := by decide +kernel
theorem dX7_limit_25 : decode cX7_limit 25 = .ok (.ireturn, 1) := by decide +kernel
theorem dX7_feed_0 : decode cX7_feed 0 = .ok (.iload_n 3, 1) := by decide +kernel
theorem dX7_feed_1 : decode cX7_feed 1 = .ok (.iconst 1, 1) := by decide +kernel
theorem dX7_feed_2 : decode cX7_feed 2 = .ok (.bipush 8, 2) := by decide +kernel
theorem dX7_feed_4 : decode cX7_feed 4 = .ok (.invokestatic 61, 3) := by decide +kernel
theorem dX7_feed_7 : decode cX7_feed 7 = .ok (.ifCond .ne 10, 3) := by decide +kernel
theorem dX7_feed_10 : decode cX7_feed 10 = .ok (.aload_n 0, 1) := by decide +kernel
theorem dX7_feed_11 : decode cX7_feed 11 = .ok (.ldc 125, 2) := by decide +kernel
theorem dX7_feed_13 : decode cX7_feed 13 = .ok (.invokevirtual 126, 3) := by decide +kernel
theorem dX7_feed_16 : decode cX7_feed 16 = .ok (.ireturn, 1) := by decide +kernel
theorem dX7_feed_17 : decode cX7_feed 17 = .ok (.aload_n 0, 1) := by decide +kernel
theorem dX7_feed_18 : decode cX7_feed 18 = .ok (.getfield 9, 3) := by decide +kernel
theorem dX7_feed_21 : decode cX7_feed 21 = .ok (.bipush 6, 2) := by decide +kernel
theorem dX7_feed_23 : decode cX7_feed 23 = .ok (.iaload, 1) := by decide +kernel
theorem dX7_feed_24 : decode cX7_feed 24 = .ok (.iload_n 3, 1) := by decide +kernel
theorem dX7_feed_25 : decode cX7_feed 25 = .ok (.iadd, 1) := by decide +kernel
theorem dX7_feed_26 : decode cX7_feed 26 = .ok (.bipush 60, 2) := by decide +kernel
theorem dX7_feed_28 : decode cX7_feed 28 = .ok (.if_icmp .le 10, 3) := by decide +kernel
theorem dX7_feed_31 : decode cX7_feed 31 = .ok (.aload_n 0, 1) := by decide +kernel
theorem dX7_feed_32 : decode cX7_feed 32 = .ok (.ldc 129, 2) := by decide +kernel
theorem dX7_feed_34 : decode cX7_feed 34 = .ok (.invokevirtual 126, 3) := by decide +kernel
theorem dX7_feed_37 : decode cX7_feed 37 = .ok (.ireturn, 1) := by decide +kernel
theorem dX7_feed_38 : decode cX7_feed 38 = .ok (.iconst 0, 1) := by decide +kernel
theorem dX7_feed_39 : decode cX7_feed 39 = .ok (.istore 4, 2) := by decide +kernel
theorem dX7_feed_41 : decode cX7_feed 41 = .ok (.iload 4, 2) := by decide +kernel
theorem dX7_feed_43 : decode cX7_feed 43 = .ok (.iload_n 3, 1) := by decide +kernel
theorem dX7_feed_44 : decode cX7_feed 44 = .ok (.if_icmp .ge 47, 3) := by decide +kernel
theorem dX7_feed_47 : decode cX7_feed 47 = .ok (.aload_n 0, 1) := by decide +kernel
theorem dX7_feed_48 : decode cX7_feed 48 = .ok (.getfield 9, 3) := by decide +kernel
theorem dX7_feed_51 : decode cX7_feed 51 = .ok (.bipush 56, 2) := by decide +kernel
theorem dX7_feed_53 : decode cX7_feed 53 = .ok (.aload_n 0, 1) := by decide +kernel
theorem dX7_feed_54 : decode cX7_feed 54 = .ok (.getfield 9, 3) := by decide +kernel
theorem dX7_feed_57 : decode cX7_feed 57 = .ok (.bipush 6, 2) := by decide +kernel
theorem dX7_feed_59 : decode cX7_feed 59 = .ok (.iaload, 1) := by decide +kernel
theorem dX7_feed_60 : decode cX7_feed 60 = .ok (.iadd, 1) := by decide +kernel
theorem dX7_feed_61 : decode cX7_feed 61 = .ok (.lload_n 1, 1) := by decide +kernel
theorem dX7_feed_62 : decode cX7_feed 62 = .ok (.bipush 8, 2) := by decide +kernel
theorem dX7_feed_64 : decode cX7_feed 64 = .ok (.iload 4, 2) := by decide +kernel
theorem dX7_feed_66 : decode cX7_feed 66 = .ok (.imul, 1) := by decide +kernel
theorem dX7_feed_67 : decode cX7_feed 67 = .ok (.lshr, 1) := by decide +kernel
theorem dX7_feed_68 : decode cX7_feed 68 = .ok (.ldc2_w 142, 3) := by decide +kernel
theorem dX7_feed_71 : decode cX7_feed 71 = .ok (.land, 1) := by decide +kernel
theorem dX7_feed_72 : decode cX7_feed 72 = .ok (.l2i, 1) := by decide +kernel
theorem dX7_feed_73 : decode cX7_feed 73 = .ok (.iastore, 1) := by decide +kernel
theorem dX7_feed_74 : decode cX7_feed 74 = .ok (.aload_n 0, 1) := by decide +kernel
theorem dX7_feed_75 : decode cX7_feed 75 = .ok (.getfield 9, 3) := by decide +kernel
theorem dX7_feed_78 : decode cX7_feed 78 = .ok (.bipush 6, 2) := by decide +kernel
theorem dX7_feed_80 : decode cX7_feed 80 = .ok (.dup2, 1) := by decide +kernel
theorem dX7_feed_81 : decode cX7_feed 81 = .ok (.iaload, 1) := by decide +kernel
theorem dX7_feed_82 : decode cX7_feed 82 = .ok (.iconst 1, 1) := by decide +kernel
theorem dX7_feed_83 : decode cX7_feed 83 = .ok (.iadd, 1) := by decide +kernel
theorem dX7_feed_84 : decode cX7_feed 84 = .ok (.iastore, 1) := by decide +kernel
theorem dX7_feed_85 : decode cX7_feed 85 = .ok (.iinc 4 1, 3) := by decide +kernel
theorem dX7_feed_88 : decode cX7_feed 88 = .ok (.goto (-47), 3) := by decide +kernel
theorem dX7_feed_91 : decode cX7_feed 91 = .ok (.aload_n 0, 1) := by decide +kernel
theorem dX7_feed_92 : decode cX7_feed 92 = .ok (.getfield 9, 3) := by decide +kernel
theorem dX7_feed_95 : decode cX7_feed 95 = .ok (.bipush 6, 2) := by decide +kernel
theorem dX7_feed_97 : decode cX7_feed 97 = .ok (.iaload, 1) := by decide +kernel
theorem dX7_feed_98 : decode cX7_feed 98 = .ok (.ireturn, 1) := by decide +kernel
theorem dX7_look_0 : decode cX7_look 0 = .ok (.aload_n 0, 1) := by decide +kernel
theorem dX7_look_1 : decode cX7_look 1 = .ok (.getfield 144, 3) := by decide +kernel
theorem dX7_look_4 : decode cX7_look 4 = .ok (.aload_n 0, 1) := by decide +kernel
theorem dX7_look_5 : decode cX7_look 5 = .ok (.getfield 9, 3) := by decide +kernel
theorem dX7_look_8 : decode cX7_look 8 = .ok (.bipush 6, 2) := by decide +kernel
theorem dX7_look_10 : decode cX7_look 10 = .ok (.iaload, 1) := by decide +kernel
theorem dX7_look_11 : decode cX7_look 11 = .ok (.if_icmp .ge 18, 3) := by decide +kernel
theorem dX7_look_14 : decode cX7_look 14 = .ok (.aload_n 0, 1) := by decide +kernel
theorem dX7_look_15 : decode cX7_look 15 = .ok (.getfield 9, 3) := by decide +kernel
theorem dX7_look_18 : decode cX7_look 18 = .ok (.bipush 56, 2) := by decide +kernel
theorem dX7_look_20 : decode cX7_look 20 = .ok (.aload_n 0, 1) := by decide +kernel
theorem dX7_look_21 : decode cX7_look 21 = .ok (.getfield 144, 3) := by decide +kernel
theorem dX7_look_24 : decode cX7_look 24 = .ok (.iadd, 1) := by decide +kernel
theorem dX7_look_25 : decode cX7_look 25 = .ok (.iaload, 1) := by decide +kernel
theorem dX7_look_26 : decode cX7_look 26 = .ok (.goto 4, 3) := by decide +kernel
theorem dX7_look_29 : decode cX7_look 29 = .ok (.iconst (-1), 1) := by decide +kernel
theorem dX7_look_30 : decode cX7_look 30 = .ok (.ireturn, 1) := by decide +kernel
theorem dX7_lays_0 : decode cX7_lays 0 = .ok (.aload_n 0, 1) := by decide +kernel
theorem dX7_lays_1 : decode cX7_lays 1 = .ok (.getfield 148, 3) := by decide +kernel
theorem dX7_lays_4 : decode cX7_lays 4 = .ok (.aload_n 0, 1) := by decide +kernel
theorem dX7_lays_5 : decode cX7_lays 5 = .ok (.getfield 41, 3) := by decide +kernel
theorem dX7_lays_8 : decode cX7_lays 8 = .ok (.arraylength, 1) := by decide +kernel
theorem dX7_lays_9 : decode cX7_lays 9 = .ok (.if_icmp .ge 33, 3) := by decide +kernel
theorem dX7_lays_12 : decode cX7_lays 12 = .ok (.aload_n 0, 1) := by decide +kernel
theorem dX7_lays_13 : decode cX7_lays 13 = .ok (.getfield 41, 3) := by decide +kernel
theorem dX7_lays_16 : decode cX7_lays 16 = .ok (.aload_n 0, 1) := by decide +kernel
theorem dX7_lays_17 : decode cX7_lays 17 = .ok (.getfield 148, 3) := by decide +kernel
theorem dX7_lays_20 : decode cX7_lays 20 = .ok (.iload_n 1, 1) := by decide +kernel
theorem dX7_lays_21 : decode cX7_lays 21 = .ok (.iastore, 1) := by decide +kernel
theorem dX7_lays_22 : decode cX7_lays 22 = .ok (.aload_n 0, 1) := by decide +kernel
theorem dX7_lays_23 : decode cX7_lays 23 = .ok (.getfield 44, 3) := by decide +kernel
theorem dX7_lays_26 : decode cX7_lays 26 = .ok (.aload_n 0, 1) := by decide +kernel
theorem dX7_lays_27 : decode cX7_lays 27 = .ok (.getfield 148, 3) := by decide +kernel
theorem dX7_lays_30 : decode cX7_lays 30 = .ok (.iload_n 2, 1) := by decide +kernel
theorem dX7_lays_31 : decode cX7_lays 31 = .ok (.iastore, 1) := by decide +kernel
theorem dX7_lays_32 : decode cX7_lays 32 = .ok (.aload_n 0, 1) := by decide +kernel
theorem dX7_lays_33 : decode cX7_lays 33 = .ok (.dup, 1) := by decide +kernel
theorem dX7_lays_34 : decode cX7_lays 34 = .ok (.getfield 148, 3) := by decide +kernel
theorem dX7_lays_37 : decode cX7_lays 37 = .ok (.iconst 1, 1) := by decide +kernel
theorem dX7_lays_38 : decode cX7_lays 38 = .ok (.iadd, 1) := by decide +kernel
theorem dX7_lays_39 : decode cX7_lays 39 = .ok (.putfield 148, 3) := by decide +kernel
theorem dX7_lays_42 : decode cX7_lays 42 = .ok (.return_, 1) := by decide +kernel
theorem dX7_nameOf_0 : decode cX7_nameOf 0 = .ok (.iload_n 1, 1) := by decide +kernel
theorem dX7_nameOf_1 : decode cX7_nameOf 1 = .ok (.tableswitch 116 107 119 #[67, 116, 116, 114, 116, 116, 116, 116, 90, 90, 116, 116, 67], 67) := by decide +kernel
theorem dX7_nameOf_68 : decode cX7_nameOf 68 = .ok (.aload_n 0, 1) := by decide +kernel
theorem dX7_nameOf_69 : decode cX7_nameOf 69 = .ok (.getfield 151, 3) := by decide +kernel
theorem dX7_nameOf_72 : decode cX7_nameOf 72 = .ok (.ifCond .eq 7, 3) := by decide +kernel
theorem dX7_nameOf_75 : decode cX7_nameOf 75 = .ok (.iconst (-1), 1) := by decide +kernel
theorem dX7_nameOf_76 : decode cX7_nameOf 76 = .ok (.goto 14, 3) := by decide +kernel
theorem dX7_nameOf_79 : decode cX7_nameOf 79 = .ok (.iload_n 1, 1) := by decide +kernel
theorem dX7_nameOf_80 : decode cX7_nameOf 80 = .ok (.bipush 119, 2) := by decide +kernel
theorem dX7_nameOf_82 : decode cX7_nameOf 82 = .ok (.if_icmp .ne 7, 3) := by decide +kernel
theorem dX7_nameOf_85 : decode cX7_nameOf 85 = .ok (.iconst 0, 1) := by decide +kernel
theorem dX7_nameOf_86 : decode cX7_nameOf 86 = .ok (.goto 4, 3) := by decide +kernel
theorem dX7_nameOf_89 : decode cX7_nameOf 89 = .ok (.iconst 1, 1) := by decide +kernel
theorem dX7_nameOf_90 : decode cX7_nameOf 90 = .ok (.ireturn, 1) := by decide +kernel
theorem dX7_nameOf_91 : decode cX7_nameOf 91 = .ok (.aload_n 0, 1) := by decide +kernel
theorem dX7_nameOf_92 : decode cX7_nameOf 92 = .ok (.getfield 151, 3) := by decide +kernel
theorem dX7_nameOf_95 : decode cX7_nameOf 95 = .ok (.iconst 1, 1) := by decide +kernel
theorem dX7_nameOf_96 : decode cX7_nameOf 96 = .ok (.if_icmp .eq 7, 3) := by decide +kernel
theorem dX7_nameOf_99 : decode cX7_nameOf 99 = .ok (.iconst (-1), 1) := by decide +kernel
theorem dX7_nameOf_100 : decode cX7_nameOf 100 = .ok (.goto 14, 3) := by decide +kernel
theorem dX7_nameOf_103 : decode cX7_nameOf 103 = .ok (.iload_n 1, 1) := by decide +kernel
theorem dX7_nameOf_104 : decode cX7_nameOf 104 = .ok (.bipush 115, 2) := by decide +kernel
theorem dX7_nameOf_106 : decode cX7_nameOf 106 = .ok (.if_icmp .ne 7, 3) := by decide +kernel
theorem dX7_nameOf_109 : decode cX7_nameOf 109 = .ok (.iconst 0, 1) := by decide +kernel
theorem dX7_nameOf_110 : decode cX7_nameOf 110 = .ok (.goto 4, 3) := by decide +kernel
theorem dX7_nameOf_113 : decode cX7_nameOf 113 = .ok (.iconst 1, 1) := by decide +kernel
theorem dX7_nameOf_114 : decode cX7_nameOf 114 = .ok (.ireturn, 1) := by decide +kernel
theorem dX7_nameOf_115 : decode cX7_nameOf 115 = .ok (.iconst 2, 1) := by decide +kernel
theorem dX7_nameOf_116 : decode cX7_nameOf 116 = .ok (.ireturn, 1) := by decide +kernel
theorem dX7_nameOf_117 : decode cX7_nameOf 117 = .ok (.iconst (-1), 1) := by decide +kernel
theorem dX7_nameOf_118 : decode cX7_nameOf 118 = .ok (.ireturn, 1) := by decide +kernel
theorem dX7_number_0 : decode cX7_number 0 = .ok (.iconst 0, 1) := by decide +kernel
theorem dX7_number_1 : decode cX7_number 1 = .ok (.istore_n 1, 1) := by decide +kernel
theorem dX7_number_2 : decode cX7_number 2 = .ok (.iconst 0, 1) := by decide +kernel
theorem dX7_number_3 : decode cX7_number 3 = .ok (.istore_n 2, 1) := by decide +kernel
theorem dX7_number_4 : decode cX7_number 4 = .ok (.iload_n 2, 1) := by decide +kernel
theorem dX7_number_5 : decode cX7_number 5 = .ok (.iconst 4, 1) := by decide +kernel
theorem dX7_number_6 : decode cX7_number 6 = .ok (.if_icmp .ge 46, 3) := by decide +kernel
theorem dX7_number_9 : decode cX7_number 9 = .ok (.aload_n 0, 1) := by decide +kernel
theorem dX7_number_10 : decode cX7_number 10 = .ok (.invokevirtual 154, 3) := by decide +kernel
theorem dX7_number_13 : decode cX7_number 13 = .ok (.bipush 48, 2) := by decide +kernel
theorem dX7_number_15 : decode cX7_number 15 = .ok (.bipush 57, 2) := by decide +kernel
theorem dX7_number_17 : decode cX7_number 17 = .ok (.invokestatic 61, 3) := by decide +kernel
theorem dX7_number_20 : decode cX7_number 20 = .ok (.ifCond .eq 32, 3) := by decide +kernel
theorem dX7_number_23 : decode cX7_number 23 = .ok (.bipush 10, 2) := by decide +kernel
theorem dX7_number_25 : decode cX7_number 25 = .ok (.iload_n 1, 1) := by decide +kernel
theorem dX7_number_26 : decode cX7_number 26 = .ok (.imul, 1) := by decide +kernel
theorem dX7_number_27 : decode cX7_number 27 = .ok (.aload_n 0, 1) := by decide +kernel
theorem dX7_number_28 : decode cX7_number 28 = .ok (.invokevirtual 154, 3) := by decide +kernel
theorem dX7_number_31 : decode cX7_number 31 = .ok (.iadd, 1) := by decide +kernel
theorem dX7_number_32 : decode cX7_number 32 = .ok (.bipush 48, 2) := by decide +kernel
theorem dX7_number_34 : decode cX7_number 34 = .ok (.isub, 1) := by decide +kernel
theorem dX7_number_35 : decode cX7_number 35 = .ok (.istore_n 1, 1) := by decide +kernel
theorem dX7_number_36 : decode cX7_number 36 = .ok (.aload_n 0, 1) := by decide +kernel
theorem dX7_number_37 : decode cX7_number 37 = .ok (.dup, 1) := by decide +kernel
theorem dX7_number_38 : decode cX7_number 38 = .ok (.getfield 144, 3) := by decide +kernel
theorem dX7_number_41 : decode cX7_number 41 = .ok (.iconst 1, 1) := by decide +kernel
theorem dX7_number_42 : decode cX7_number 42 = .ok (.iadd, 1) := by decide +kernel
theorem dX7_number_43 : decode cX7_number 43 = .ok (.putfield 144, 3) := by decide +kernel
theorem dX7_number_46 : decode cX7_number 46 = .ok (.iinc 2 1, 3) := by decide +kernel
theorem dX7_number_49 : decode cX7_number 49 = .ok (.goto (-45), 3) := by decide +kernel
theorem dX7_number_52 : decode cX7_number 52 = .ok (.aload_n 0, 1) := by decide +kernel
theorem dX7_number_53 : decode cX7_number 53 = .ok (.iload_n 2, 1) := by decide +kernel
theorem dX7_number_54 : decode cX7_number 54 = .ok (.ifCond .ne 7, 3) := by decide +kernel
theorem dX7_number_57 : decode cX7_number 57 = .ok (.iconst 1, 1) := by decide +kernel
theorem dX7_number_58 : decode cX7_number 58 = .ok (.goto 4, 3) := by decide +kernel
theorem dX7_number_61 : decode cX7_number 61 = .ok (.iconst 0, 1) := by decide +kernel
theorem dX7_number_62 : decode cX7_number 62 = .ok (.putfield 157, 3) := by decide +kernel
theorem dX7_number_65 : decode cX7_number 65 = .ok (.aload_n 0, 1) := by decide +kernel
theorem dX7_number_66 : decode cX7_number 66 = .ok (.iconst 1, 1) := by decide +kernel
theorem dX7_number_67 : decode cX7_number 67 = .ok (.iload_n 1, 1) := by decide +kernel
theorem dX7_number_68 : decode cX7_number 68 = .ok (.invokevirtual 161, 3) := by decide +kernel
theorem dX7_number_71 : decode cX7_number 71 = .ok (.return_, 1) := by decide +kernel
theorem dX7_opens_0 : decode cX7_opens 0 = .ok (.aload_n 0, 1) := by decide +kernel
theorem dX7_opens_1 : decode cX7_opens 1 = .ok (.getfield 165, 3) := by decide +kernel
theorem dX7_opens_4 : decode cX7_opens 4 = .ok (.iconst 5, 1) := by decide +kernel
theorem dX7_opens_5 : decode cX7_opens 5 = .ok (.if_icmp .ne 9, 3) := by decide +kernel
theorem dX7_opens_8 : decode cX7_opens 8 = .ok (.aload_n 0, 1) := by decide +kernel
theorem dX7_opens_9 : decode cX7_opens 9 = .ok (.iconst 1, 1) := by decide +kernel
theorem dX7_opens_10 : decode cX7_opens 10 = .ok (.putfield 157, 3) := by decide +kernel
theorem dX7_opens_13 : decode cX7_opens 13 = .ok (.return_, 1) := by decide +kernel
theorem dX7_opens_14 : decode cX7_opens 14 = .ok (.aload_n 0, 1) := by decide +kernel
theorem dX7_opens_15 : decode cX7_opens 15 = .ok (.dup, 1) := by decide +kernel
theorem dX7_opens_16 : decode cX7_opens 16 = .ok (.getfield 165, 3) := by decide +kernel
theorem dX7_opens_19 : decode cX7_opens 19 = .ok (.iconst 1, 1) := by decide +kernel
theorem dX7_opens_20 : decode cX7_opens 20 = .ok (.iadd, 1) := by decide +kernel
theorem dX7_opens_21 : decode cX7_opens 21 = .ok (.putfield 165, 3) := by decide +kernel
theorem dX7_opens_24 : decode cX7_opens 24 = .ok (.aload_n 0, 1) := by decide +kernel
theorem dX7_opens_25 : decode cX7_opens 25 = .ok (.dup, 1) := by decide +kernel
theorem dX7_opens_26 : decode cX7_opens 26 = .ok (.getfield 144, 3) := by decide +kernel
theorem dX7_opens_29 : decode cX7_opens 29 = .ok (.iconst 1, 1) := by decide +kernel
theorem dX7_opens_30 : decode cX7_opens 30 = .ok (.iadd, 1) := by decide +kernel
theorem dX7_opens_31 : decode cX7_opens 31 = .ok (.putfield 144, 3) := by decide +kernel
theorem dX7_opens_34 : decode cX7_opens 34 = .ok (.iload_n 1, 1) := by decide +kernel
theorem dX7_opens_35 : decode cX7_opens 35 = .ok (.bipush 33, 2) := by decide +kernel
theorem dX7_opens_37 : decode cX7_opens 37 = .ok (.if_icmp .ne 16, 3) := by decide +kernel
theorem dX7_opens_40 : decode cX7_opens 40 = .ok (.aload_n 0, 1) := by decide +kernel
theorem dX7_opens_41 : decode cX7_opens 41 = .ok (.invokevirtual 168, 3) := by decide +kernel
theorem dX7_opens_44 : decode cX7_opens 44 = .ok (.aload_n 0, 1) := by decide +kernel
theorem dX7_opens_45 : decode cX7_opens 45 = .ok (.iconst 3, 1) := by decide +kernel
theorem dX7_opens_46 : decode cX7_opens 46 = .ok (.iconst 0, 1) := by decide +kernel
theorem dX7_opens_47 : decode cX7_opens 47 = .ok (.invokevirtual 161, 3) := by decide +kernel
theorem dX7_opens_50 : decode cX7_opens 50 = .ok (.goto 53, 3) := by decide +kernel
theorem dX7_opens_53 : decode cX7_opens 53 = .ok (.aload_n 0, 1) := by decide +kernel
theorem dX7_opens_54 : decode cX7_opens 54 = .ok (.invokevirtual 171, 3) := by decide +kernel
theorem dX7_opens_57 : decode cX7_opens 57 = .ok (.aload_n 0, 1) := by decide +kernel
theorem dX7_opens_58 : decode cX7_opens 58 = .ok (.aload_n 0, 1) := by decide +kernel
theorem dX7_opens_59 : decode cX7_opens 59 = .ok (.getfield 157, 3) := by decide +kernel
theorem dX7_opens_62 : decode cX7_opens 62 = .ok (.ifCond .ne 12, 3) := by decide +kernel
theorem dX7_opens_65 : decode cX7_opens 65 = .ok (.aload_n 0, 1) := by decide +kernel
theorem dX7_opens_66 : decode cX7_opens 66 = .ok (.invokevirtual 154, 3) := by decide +kernel
theorem dX7_opens_69 : decode cX7_opens 69 = .ok (.bipush 41, 2) := by decide +kernel
theorem dX7_opens_71 : decode cX7_opens 71 = .ok (.if_icmp .eq 7, 3) := by decide +kernel
theorem dX7_opens_74 : decode cX7_opens 74 = .ok (.iconst 1, 1) := by decide +kernel
theorem dX7_opens_75 : decode cX7_opens 75 = .ok (.goto 4, 3) := by decide +kernel
theorem dX7_opens_78 : decode cX7_opens 78 = .ok (.iconst 0, 1) := by decide +kernel
theorem dX7_opens_79 : decode cX7_opens 79 = .ok (.putfield 157, 3) := by decide +kernel
theorem dX7_opens_82 : decode cX7_opens 82 = .ok (.aload_n 0, 1) := by decide +kernel
theorem dX7_opens_83 : decode cX7_opens 83 = .ok (.dup, 1) := by decide +kernel
theorem dX7_opens_84 : decode cX7_opens 84 = .ok (.getfield 144, 3) := by decide +kernel
theorem dX7_opens_87 : decode cX7_opens 87 = .ok (.aload_n 0, 1) := by decide +kernel
theorem dX7_opens_88 : decode cX7_opens 88 = .ok (.getfield 157, 3) := by decide +kernel
theorem dX7_opens_91 : decode cX7_opens 91 = .ok (.ifCond .eq 7, 3) := by decide +kernel
theorem dX7_opens_94 : decode cX7_opens 94 = .ok (.iconst 0, 1) := by decide +kernel
theorem dX7_opens_95 : decode cX7_opens 95 = .ok (.goto 4, 3) := by decide +kernel
theorem dX7_opens_98 : decode cX7_opens 98 = .ok (.iconst 1, 1) := by decide +kernel
theorem dX7_opens_99 : decode cX7_opens 99 = .ok (.iadd, 1) := by decide +kernel
theorem dX7_opens_100 : decode cX7_opens 100 = .ok (.putfield 144, 3) := by decide +kernel
theorem dX7_opens_103 : decode cX7_opens 103 = .ok (.aload_n 0, 1) := by decide +kernel
theorem dX7_opens_104 : decode cX7_opens 104 = .ok (.dup, 1) := by decide +kernel
theorem dX7_opens_105 : decode cX7_opens 105 = .ok (.getfield 165, 3) := by decide +kernel
theorem dX7_opens_108 : decode cX7_opens 108 = .ok (.iconst 1, 1) := by decide +kernel
theorem dX7_opens_109 : decode cX7_opens 109 = .ok (.isub, 1) := by decide +kernel
theorem dX7_opens_110 : decode cX7_opens 110 = .ok (.putfield 165, 3) := by decide +kernel
theorem dX7_opens_113 : decode cX7_opens 113 = .ok (.return_, 1) := by decide +kernel
theorem dX7_one_0 : decode cX7_one 0 = .ok (.aload_n 0, 1) := by decide +kernel
theorem dX7_one_1 : decode cX7_one 1 = .ok (.invokevirtual 154, 3) := by decide +kernel
theorem dX7_one_4 : decode cX7_one 4 = .ok (.istore_n 1, 1) := by decide +kernel
theorem dX7_one_5 : decode cX7_one 5 = .ok (.aload_n 0, 1) := by decide +kernel
theorem dX7_one_6 : decode cX7_one 6 = .ok (.iload_n 1, 1) := by decide +kernel
theorem dX7_one_7 : decode cX7_one 7 = .ok (.invokevirtual 174, 3) := by decide +kernel
theorem dX7_one_10 : decode cX7_one 10 = .ok (.istore_n 2, 1) := by decide +kernel
theorem dX7_one_11 : decode cX7_one 11 = .ok (.iload_n 2, 1) := by decide +kernel
theorem dX7_one_12 : decode cX7_one 12 = .ok (.ifCond .lt 22, 3) := by decide +kernel
theorem dX7_one_15 : decode cX7_one 15 = .ok (.aload_n 0, 1) := by decide +kernel
theorem dX7_one_16 : decode cX7_one 16 = .ok (.dup, 1) := by decide +kernel
theorem dX7_one_17 : decode cX7_one 17 = .ok (.getfield 144, 3) := by decide +kernel
theorem dX7_one_20 : decode cX7_one 20 = .ok (.iconst 1, 1) := by decide +kernel
theorem dX7_one_21 : decode cX7_one 21 = .ok (.iadd, 1) := by decide +kernel
theorem dX7_one_22 : decode cX7_one 22 = .ok (.putfield 144, 3) := by decide +kernel
theorem dX7_one_25 : decode cX7_one 25 = .ok (.aload_n 0, 1) := by decide +kernel
theorem dX7_one_26 : decode cX7_one 26 = .ok (.iconst 2, 1) := by decide +kernel
theorem dX7_one_27 : decode cX7_one 27 = .ok (.iload_n 2, 1) := by decide +kernel
theorem dX7_one_28 : decode cX7_one 28 = .ok (.invokevirtual 161, 3) := by decide +kernel
theorem dX7_one_31 : decode cX7_one 31 = .ok (.goto 27, 3) := by decide +kernel
theorem dX7_one_34 : decode cX7_one 34 = .ok (.iload_n 1, 1) := by decide +kernel
theorem dX7_one_35 : decode cX7_one 35 = .ok (.bipush 33, 2) := by decide +kernel
theorem dX7_one_37 : decode cX7_one 37 = .ok (.if_icmp .eq 9, 3) := by decide +kernel
theorem dX7_one_40 : decode cX7_one 40 = .ok (.iload_n 1, 1) := by decide +kernel
theorem dX7_one_41 : decode cX7_one 41 = .ok (.bipush 40, 2) := by decide +kernel
theorem dX7_one_43 : decode cX7_one 43 = .ok (.if_icmp .ne 11, 3) := by decide +kernel
theorem dX7_one_46 : decode cX7_one 46 = .ok (.aload_n 0, 1) := by decide +kernel
theorem dX7_one_47 : decode cX7_one 47 = .ok (.iload_n 1, 1) := by decide +kernel
theorem dX7_one_48 : decode cX7_one 48 = .ok (.invokevirtual 177, 3) := by decide +kernel
theorem dX7_one_51 : decode cX7_one 51 = .ok (.goto 7, 3) := by decide +kernel
theorem dX7_one_54 : decode cX7_one 54 = .ok (.aload_n 0, 1) := by decide +kernel
theorem dX7_one_55 : decode cX7_one 55 = .ok (.invokevirtual 180, 3) := by decide +kernel
theorem dX7_one_58 : decode cX7_one 58 = .ok (.return_, 1) := by decide +kernel
theorem dX7_times_0 : decode cX7_times 0 = .ok (.aload_n 0, 1) := by decide +kernel
theorem dX7_times_1 : decode cX7_times 1 = .ok (.invokevirtual 168, 3) := by decide +kernel
theorem dX7_times_4 : decode cX7_times 4 = .ok (.aload_n 0, 1) := by decide +kernel
theorem dX7_times_5 : decode cX7_times 5 = .ok (.getfield 157, 3) := by decide +kernel
theorem dX7_times_8 : decode cX7_times 8 = .ok (.ifCond .ne 58, 3) := by decide +kernel
theorem dX7_times_11 : decode cX7_times 11 = .ok (.aload_n 0, 1) := by decide +kernel
theorem dX7_times_12 : decode cX7_times 12 = .ok (.invokevirtual 154, 3) := by decide +kernel
theorem dX7_times_15 : decode cX7_times 15 = .ok (.bipush 42, 2) := by decide +kernel
theorem dX7_times_17 : decode cX7_times 17 = .ok (.if_icmp .eq 21, 3) := by decide +kernel
theorem dX7_times_20 : decode cX7_times 20 = .ok (.aload_n 0, 1) := by decide +kernel
theorem dX7_times_21 : decode cX7_times 21 = .ok (.invokevirtual 154, 3) := by decide +kernel
theorem dX7_times_24 : decode cX7_times 24 = .ok (.bipush 47, 2) := by decide +kernel
theorem dX7_times_26 : decode cX7_times 26 = .ok (.if_icmp .eq 12, 3) := by decide +kernel
theorem dX7_times_29 : decode cX7_times 29 = .ok (.aload_n 0, 1) := by decide +kernel
theorem dX7_times_30 : decode cX7_times 30 = .ok (.invokevirtual 154, 3) := by decide +kernel
theorem dX7_times_33 : decode cX7_times 33 = .ok (.bipush 37, 2) := by decide +kernel
theorem dX7_times_35 : decode cX7_times 35 = .ok (.if_icmp .ne 31, 3) := by decide +kernel
theorem dX7_times_38 : decode cX7_times 38 = .ok (.aload_n 0, 1) := by decide +kernel
theorem dX7_times_39 : decode cX7_times 39 = .ok (.invokevirtual 154, 3) := by decide +kernel
theorem dX7_times_42 : decode cX7_times 42 = .ok (.istore_n 1, 1) := by decide +kernel
theorem dX7_times_43 : decode cX7_times 43 = .ok (.aload_n 0, 1) := by decide +kernel
theorem dX7_times_44 : decode cX7_times 44 = .ok (.dup, 1) := by decide +kernel
theorem dX7_times_45 : decode cX7_times 45 = .ok (.getfield 144, 3) := by decide +kernel
theorem dX7_times_48 : decode cX7_times 48 = .ok (.iconst 1, 1) := by decide +kernel
theorem dX7_times_49 : decode cX7_times 49 = .ok (.iadd, 1) := by decide +kernel
theorem dX7_times_50 : decode cX7_times 50 = .ok (.putfield 144, 3) := by decide +kernel
theorem dX7_times_53 : decode cX7_times 53 = .ok (.aload_n 0, 1) := by decide +kernel
theorem dX7_times_54 : decode cX7_times 54 = .ok (.invokevirtual 168, 3) := by decide +kernel
theorem dX7_times_57 : decode cX7_times 57 = .ok (.aload_n 0, 1) := by decide +kernel
theorem dX7_times_58 : decode cX7_times 58 = .ok (.iload_n 1, 1) := by decide +kernel
theorem dX7_times_59 : decode cX7_times 59 = .ok (.iconst 0, 1) := by decide +kernel
theorem dX7_times_60 : decode cX7_times 60 = .ok (.invokevirtual 161, 3) := by decide +kernel
theorem dX7_times_63 : decode cX7_times 63 = .ok (.goto (-59), 3) := by decide +kernel
theorem dX7_times_66 : decode cX7_times 66 = .ok (.return_, 1) := by decide +kernel
theorem dX7_sumBy_0 : decode cX7_sumBy 0 = .ok (.aload_n 0, 1) := by decide +kernel
theorem dX7_sumBy_1 : decode cX7_sumBy 1 = .ok (.invokevirtual 183, 3) := by decide +kernel
theorem dX7_sumBy_4 : decode cX7_sumBy 4 = .ok (.aload_n 0, 1) := by decide +kernel
theorem dX7_sumBy_5 : decode cX7_sumBy 5 = .ok (.getfield 157, 3) := by decide +kernel
theorem dX7_sumBy_8 : decode cX7_sumBy 8 = .ok (.ifCond .ne 49, 3) := by decide +kernel
theorem dX7_sumBy_11 : decode cX7_sumBy 11 = .ok (.aload_n 0, 1) := by decide +kernel
theorem dX7_sumBy_12 : decode cX7_sumBy 12 = .ok (.invokevirtual 154, 3) := by decide +kernel
theorem dX7_sumBy_15 : decode cX7_sumBy 15 = .ok (.bipush 43, 2) := by decide +kernel
theorem dX7_sumBy_17 : decode cX7_sumBy 17 = .ok (.if_icmp .eq 12, 3) := by decide +kernel
theorem dX7_sumBy_20 : decode cX7_sumBy 20 = .ok (.aload_n 0, 1) := by decide +kernel
theorem dX7_sumBy_21 : decode cX7_sumBy 21 = .ok (.invokevirtual 154, 3) := by decide +kernel
theorem dX7_sumBy_24 : decode cX7_sumBy 24 = .ok (.bipush 45, 2) := by decide +kernel
theorem dX7_sumBy_26 : decode cX7_sumBy 26 = .ok (.if_icmp .ne 31, 3) := by decide +kernel
theorem dX7_sumBy_29 : decode cX7_sumBy 29 = .ok (.aload_n 0, 1) := by decide +kernel
theorem dX7_sumBy_30 : decode cX7_sumBy 30 = .ok (.invokevirtual 154, 3) := by decide +kernel
theorem dX7_sumBy_33 : decode cX7_sumBy 33 = .ok (.istore_n 1, 1) := by decide +kernel
theorem dX7_sumBy_34 : decode cX7_sumBy 34 = .ok (.aload_n 0, 1) := by decide +kernel
theorem dX7_sumBy_35 : decode cX7_sumBy 35 = .ok (.dup, 1) := by decide +kernel
theorem dX7_sumBy_36 : decode cX7_sumBy 36 = .ok (.getfield 144, 3) := by decide +kernel
theorem dX7_sumBy_39 : decode cX7_sumBy 39 = .ok (.iconst 1, 1) := by decide +kernel
theorem dX7_sumBy_40 : decode cX7_sumBy 40 = .ok (.iadd, 1) := by decide +kernel
theorem dX7_sumBy_41 : decode cX7_sumBy 41 = .ok (.putfield 144, 3) := by decide +kernel
theorem dX7_sumBy_44 : decode cX7_sumBy 44 = .ok (.aload_n 0, 1) := by decide +kernel
theorem dX7_sumBy_45 : decode cX7_sumBy 45 = .ok (.invokevirtual 183, 3) := by decide +kernel
theorem dX7_sumBy_48 : decode cX7_sumBy 48 = .ok (.aload_n 0, 1) := by decide +kernel
theorem dX7_sumBy_49 : decode cX7_sumBy 49 = .ok (.iload_n 1, 1) := by decide +kernel
theorem dX7_sumBy_50 : decode cX7_sumBy 50 = .ok (.iconst 0, 1) := by decide +kernel
theorem dX7_sumBy_51 : decode cX7_sumBy 51 = .ok (.invokevirtual 161, 3) := by decide +kernel
theorem dX7_sumBy_54 : decode cX7_sumBy 54 = .ok (.goto (-50), 3) := by decide +kernel
theorem dX7_sumBy_57 : decode cX7_sumBy 57 = .ok (.return_, 1) := by decide +kernel
theorem dX7_compares_0 : decode cX7_compares 0 = .ok (.aload_n 0, 1) := by decide +kernel
theorem dX7_compares_1 : decode cX7_compares 1 = .ok (.invokevirtual 186, 3) := by decide +kernel
theorem dX7_compares_4 : decode cX7_compares 4 = .ok (.aload_n 0, 1) := by decide +kernel
theorem dX7_compares_5 : decode cX7_compares 5 = .ok (.invokevirtual 154, 3) := by decide +kernel
theorem dX7_compares_8 : decode cX7_compares 8 = .ok (.istore_n 1, 1) := by decide +kernel
theorem dX7_compares_9 : decode cX7_compares 9 = .ok (.aload_n 0, 1) := by decide +kernel
theorem dX7_compares_10 : decode cX7_compares 10 = .ok (.getfield 157, 3) := by decide +kernel
theorem dX7_compares_13 : decode cX7_compares 13 = .ok (.ifCond .ne 41, 3) := by decide +kernel
theorem dX7_compares_16 : decode cX7_compares 16 = .ok (.iload_n 1, 1) := by decide +kernel
theorem dX7_compares_17 : decode cX7_compares 17 = .ok (.bipush 60, 2) := by decide +kernel
theorem dX7_compares_19 : decode cX7_compares 19 = .ok (.if_icmp .eq 15, 3) := by decide +kernel
theorem dX7_compares_22 : decode cX7_compares 22 = .ok (.iload_n 1, 1) := by decide +kernel
theorem dX7_compares_23 : decode cX7_compares 23 = .ok (.bipush 61, 2) := by decide +kernel
theorem dX7_compares_25 : decode cX7_compares 25 = .ok (.if_icmp .eq 9, 3) := by decide +kernel
theorem dX7_compares_28 : decode cX7_compares 28 = .ok (.iload_n 1, 1) := by decide +kernel
theorem dX7_compares_29 : decode cX7_compares 29 = .ok (.bipush 62, 2) := by decide +kernel
theorem dX7_compares_31 : decode cX7_compares 31 = .ok (.if_icmp .ne 23, 3) := by decide +kernel
theorem dX7_compares_34 : decode cX7_compares 34 = .ok (.aload_n 0, 1) := by decide +kernel
theorem dX7_compares_35 : decode cX7_compares 35 = .ok (.dup, 1) := by decide +kernel
theorem dX7_compares_36 : decode cX7_compares 36 = .ok (.getfield 144, 3) := by decide +kernel
theorem dX7_compares_39 : decode cX7_compares 39 = .ok (.iconst 1, 1) := by decide +kernel
theorem dX7_compares_40 : decode cX7_compares 40 = .ok (.iadd, 1) := by decide +kernel
theorem dX7_compares_41 : decode cX7_compares 41 = .ok (.putfield 144, 3) := by decide +kernel
theorem dX7_compares_44 : decode cX7_compares 44 = .ok (.aload_n 0, 1) := by decide +kernel
theorem dX7_compares_45 : decode cX7_compares 45 = .ok (.invokevirtual 186, 3) := by decide +kernel
theorem dX7_compares_48 : decode cX7_compares 48 = .ok (.aload_n 0, 1) := by decide +kernel
theorem dX7_compares_49 : decode cX7_compares 49 = .ok (.iload_n 1, 1) := by decide +kernel
theorem dX7_compares_50 : decode cX7_compares 50 = .ok (.iconst 0, 1) := by decide +kernel
theorem dX7_compares_51 : decode cX7_compares 51 = .ok (.invokevirtual 161, 3) := by decide +kernel
theorem dX7_compares_54 : decode cX7_compares 54 = .ok (.return_, 1) := by decide +kernel
theorem dX7_all_0 : decode cX7_all 0 = .ok (.aload_n 0, 1) := by decide +kernel
theorem dX7_all_1 : decode cX7_all 1 = .ok (.invokevirtual 189, 3) := by decide +kernel
theorem dX7_all_4 : decode cX7_all 4 = .ok (.aload_n 0, 1) := by decide +kernel
theorem dX7_all_5 : decode cX7_all 5 = .ok (.getfield 157, 3) := by decide +kernel
theorem dX7_all_8 : decode cX7_all 8 = .ok (.ifCond .ne 36, 3) := by decide +kernel
theorem dX7_all_11 : decode cX7_all 11 = .ok (.aload_n 0, 1) := by decide +kernel
theorem dX7_all_12 : decode cX7_all 12 = .ok (.invokevirtual 154, 3) := by decide +kernel
theorem dX7_all_15 : decode cX7_all 15 = .ok (.bipush 38, 2) := by decide +kernel
theorem dX7_all_17 : decode cX7_all 17 = .ok (.if_icmp .ne 27, 3) := by decide +kernel
theorem dX7_all_20 : decode cX7_all 20 = .ok (.aload_n 0, 1) := by decide +kernel
theorem dX7_all_21 : decode cX7_all 21 = .ok (.dup, 1) := by decide +kernel
theorem dX7_all_22 : decode cX7_all 22 = .ok (.getfield 144, 3) := by decide +kernel
theorem dX7_all_25 : decode cX7_all 25 = .ok (.iconst 1, 1) := by decide +kernel
theorem dX7_all_26 : decode cX7_all 26 = .ok (.iadd, 1) := by decide +kernel
theorem dX7_all_27 : decode cX7_all 27 = .ok (.putfield 144, 3) := by decide +kernel
theorem dX7_all_30 : decode cX7_all 30 = .ok (.aload_n 0, 1) := by decide +kernel
theorem dX7_all_31 : decode cX7_all 31 = .ok (.invokevirtual 189, 3) := by decide +kernel
theorem dX7_all_34 : decode cX7_all 34 = .ok (.aload_n 0, 1) := by decide +kernel
theorem dX7_all_35 : decode cX7_all 35 = .ok (.bipush 38, 2) := by decide +kernel
theorem dX7_all_37 : decode cX7_all 37 = .ok (.iconst 0, 1) := by decide +kernel
theorem dX7_all_38 : decode cX7_all 38 = .ok (.invokevirtual 161, 3) := by decide +kernel
theorem dX7_all_41 : decode cX7_all 41 = .ok (.goto (-37), 3) := by decide +kernel
theorem dX7_all_44 : decode cX7_all 44 = .ok (.return_, 1) := by decide +kernel
theorem dX7_any_0 : decode cX7_any 0 = .ok (.aload_n 0, 1) := by decide +kernel
theorem dX7_any_1 : decode cX7_any 1 = .ok (.invokevirtual 192, 3) := by decide +kernel
theorem dX7_any_4 : decode cX7_any 4 = .ok (.aload_n 0, 1) := by decide +kernel
theorem dX7_any_5 : decode cX7_any 5 = .ok (.getfield 157, 3) := by decide +kernel
theorem dX7_any_8 : decode cX7_any 8 = .ok (.ifCond .ne 36, 3) := by decide +kernel
theorem dX7_any_11 : decode cX7_any 11 = .ok (.aload_n 0, 1) := by decide +kernel
theorem dX7_any_12 : decode cX7_any 12 = .ok (.invokevirtual 154, 3) := by decide +kernel
theorem dX7_any_15 : decode cX7_any 15 = .ok (.bipush 124, 2) := by decide +kernel
theorem dX7_any_17 : decode cX7_any 17 = .ok (.if_icmp .ne 27, 3) := by decide +kernel
theorem dX7_any_20 : decode cX7_any 20 = .ok (.aload_n 0, 1) := by decide +kernel
theorem dX7_any_21 : decode cX7_any 21 = .ok (.dup, 1) := by decide +kernel
theorem dX7_any_22 : decode cX7_any 22 = .ok (.getfield 144, 3) := by decide +kernel
theorem dX7_any_25 : decode cX7_any 25 = .ok (.iconst 1, 1) := by decide +kernel
theorem dX7_any_26 : decode cX7_any 26 = .ok (.iadd, 1) := by decide +kernel
theorem dX7_any_27 : decode cX7_any 27 = .ok (.putfield 144, 3) := by decide +kernel
theorem dX7_any_30 : decode cX7_any 30 = .ok (.aload_n 0, 1) := by decide +kernel
theorem dX7_any_31 : decode cX7_any 31 = .ok (.invokevirtual 192, 3) := by decide +kernel
theorem dX7_any_34 : decode cX7_any 34 = .ok (.aload_n 0, 1) := by decide +kernel
theorem dX7_any_35 : decode cX7_any 35 = .ok (.bipush 124, 2) := by decide +kernel
theorem dX7_any_37 : decode cX7_any 37 = .ok (.iconst 0, 1) := by decide +kernel
theorem dX7_any_38 : decode cX7_any 38 = .ok (.invokevirtual 161, 3) := by decide +kernel
theorem dX7_any_41 : decode cX7_any 41 = .ok (.goto (-37), 3) := by decide +kernel
theorem dX7_any_44 : decode cX7_any 44 = .ok (.return_, 1) := by decide +kernel
theorem dX7_text_0 : decode cX7_text 0 = .ok (.iload_n 1, 1) := by decide +kernel
theorem dX7_text_1 : decode cX7_text 1 = .ok (.iconst 0, 1) := by decide +kernel
theorem dX7_text_2 : decode cX7_text 2 = .ok (.iconst 1, 1) := by decide +kernel
theorem dX7_text_3 : decode cX7_text 3 = .ok (.invokestatic 61, 3) := by decide +kernel
theorem dX7_text_6 : decode cX7_text 6 = .ok (.ifCond .ne 10, 3) := by decide +kernel
theorem dX7_text_9 : decode cX7_text 9 = .ok (.aload_n 0, 1) := by decide +kernel
theorem dX7_text_10 : decode cX7_text 10 = .ok (.ldc 125, 2) := by decide +kernel
theorem dX7_text_12 : decode cX7_text 12 = .ok (.invokevirtual 126, 3) := by decide +kernel
theorem dX7_text_15 : decode cX7_text 15 = .ok (.ireturn, 1) := by decide +kernel
theorem dX7_text_16 : decode cX7_text 16 = .ok (.aload_n 0, 1) := by decide +kernel
theorem dX7_text_17 : decode cX7_text 17 = .ok (.iload_n 1, 1) := by decide +kernel
theorem dX7_text_18 : decode cX7_text 18 = .ok (.putfield 151, 3) := by decide +kernel
theorem dX7_text_21 : decode cX7_text 21 = .ok (.aload_n 0, 1) := by decide +kernel
theorem dX7_text_22 : decode cX7_text 22 = .ok (.iconst 0, 1) := by decide +kernel
theorem dX7_text_23 : decode cX7_text 23 = .ok (.putfield 148, 3) := by decide +kernel
theorem dX7_text_26 : decode cX7_text 26 = .ok (.aload_n 0, 1) := by decide +kernel
theorem dX7_text_27 : decode cX7_text 27 = .ok (.iconst 0, 1) := by decide +kernel
theorem dX7_text_28 : decode cX7_text 28 = .ok (.putfield 144, 3) := by decide +kernel
theorem dX7_text_31 : decode cX7_text 31 = .ok (.aload_n 0, 1) := by decide +kernel
theorem dX7_text_32 : decode cX7_text 32 = .ok (.iconst 0, 1) := by decide +kernel
theorem dX7_text_33 : decode cX7_text 33 = .ok (.putfield 165, 3) := by decide +kernel
theorem dX7_text_36 : decode cX7_text 36 = .ok (.aload_n 0, 1) := by decide +kernel
theorem dX7_text_37 : decode cX7_text 37 = .ok (.iconst 0, 1) := by decide +kernel
theorem dX7_text_38 : decode cX7_text 38 = .ok (.putfield 157, 3) := by decide +kernel
theorem dX7_text_41 : decode cX7_text 41 = .ok (.aload_n 0, 1) := by decide +kernel
theorem dX7_text_42 : decode cX7_text 42 = .ok (.invokevirtual 171, 3) := by decide +kernel
theorem dX7_text_45 : decode cX7_text 45 = .ok (.aload_n 0, 1) := by decide +kernel
theorem dX7_text_46 : decode cX7_text 46 = .ok (.aload_n 0, 1) := by decide +kernel
theorem dX7_text_47 : decode cX7_text 47 = .ok (.getfield 157, 3) := by decide +kernel
theorem dX7_text_50 : decode cX7_text 50 = .ok (.ifCond .ne 17, 3) := by decide +kernel
theorem dX7_text_53 : decode cX7_text 53 = .ok (.aload_n 0, 1) := by decide +kernel
theorem dX7_text_54 : decode cX7_text 54 = .ok (.getfield 144, 3) := by decide +kernel
theorem dX7_text_57 : decode cX7_text 57 = .ok (.aload_n 0, 1) := by decide +kernel
theorem dX7_text_58 : decode cX7_text 58 = .ok (.getfield 9, 3) := by decide +kernel
theorem dX7_text_61 : decode cX7_text 61 = .ok (.bipush 6, 2) := by decide +kernel
theorem dX7_text_63 : decode cX7_text 63 = .ok (.iaload, 1) := by decide +kernel
theorem dX7_text_64 : decode cX7_text 64 = .ok (.if_icmp .ge 7, 3) := by decide +kernel
theorem dX7_text_67 : decode cX7_text 67 = .ok (.iconst 1, 1) := by decide +kernel
theorem dX7_text_68 : decode cX7_text 68 = .ok (.goto 4, 3) := by decide +kernel
theorem dX7_text_71 : decode cX7_text 71 = .ok (.iconst 0, 1) := by decide +kernel
theorem dX7_text_72 : decode cX7_text 72 = .ok (.putfield 157, 3) := by decide +kernel
theorem dX7_text_75 : decode cX7_text 75 = .ok (.aload_n 0, 1) := by decide +kernel
theorem dX7_text_76 : decode cX7_text 76 = .ok (.getfield 9, 3) := by decide +kernel
theorem dX7_text_79 : decode cX7_text 79 = .ok (.bipush 6, 2) := by decide +kernel
theorem dX7_text_81 : decode cX7_text 81 = .ok (.iconst 0, 1) := by decide +kernel
theorem dX7_text_82 : decode cX7_text 82 = .ok (.iastore, 1) := by decide +kernel
theorem dX7_text_83 : decode cX7_text 83 = .ok (.aload_n 0, 1) := by decide +kernel
theorem dX7_text_84 : decode cX7_text 84 = .ok (.getfield 157, 3) := by decide +kernel
theorem dX7_text_87 : decode cX7_text 87 = .ok (.ifCond .eq 11, 3) := by decide +kernel
theorem dX7_text_90 : decode cX7_text 90 = .ok (.bipush (-10), 2) := by decide +kernel
theorem dX7_text_92 : decode cX7_text 92 = .ok (.aload_n 0, 1) := by decide +kernel
theorem dX7_text_93 : decode cX7_text 93 = .ok (.getfield 144, 3) := by decide +kernel
theorem dX7_text_96 : decode cX7_text 96 = .ok (.isub, 1) := by decide +kernel
theorem dX7_text_97 : decode cX7_text 97 = .ok (.ireturn, 1) := by decide +kernel
theorem dX7_text_98 : decode cX7_text 98 = .ok (.sipush 140, 3) := by decide +kernel
theorem dX7_text_101 : decode cX7_text 101 = .ok (.bipush 121, 2) := by decide +kernel
theorem dX7_text_103 : decode cX7_text 103 = .ok (.iload_n 1, 1) := by decide +kernel
theorem dX7_text_104 : decode cX7_text 104 = .ok (.imul, 1) := by decide +kernel
theorem dX7_text_105 : decode cX7_text 105 = .ok (.iadd, 1) := by decide +kernel
theorem dX7_text_106 : decode cX7_text 106 = .ok (.istore_n 2, 1) := by decide +kernel
theorem dX7_text_107 : decode cX7_text 107 = .ok (.aload_n 0, 1) := by decide +kernel
theorem dX7_text_108 : decode cX7_text 108 = .ok (.getfield 9, 3) := by decide +kernel
theorem dX7_text_111 : decode cX7_text 111 = .ok (.iload_n 2, 1) := by decide +kernel
theorem dX7_text_112 : decode cX7_text 112 = .ok (.aload_n 0, 1) := by decide +kernel
theorem dX7_text_113 : decode cX7_text 113 = .ok (.getfield 148, 3) := by decide +kernel
theorem dX7_text_116 : decode cX7_text 116 = .ok (.iastore, 1) := by decide +kernel
theorem dX7_text_117 : decode cX7_text 117 = .ok (.iconst 0, 1) := by decide +kernel
theorem dX7_text_118 : decode cX7_text 118 = .ok (.istore_n 3, 1) := by decide +kernel
theorem dX7_text_119 : decode cX7_text 119 = .ok (.iload_n 3, 1) := by decide +kernel
theorem dX7_text_120 : decode cX7_text 120 = .ok (.aload_n 0, 1) := by decide +kernel
theorem dX7_text_121 : decode cX7_text 121 = .ok (.getfield 148, 3) := by decide +kernel
theorem dX7_text_124 : decode cX7_text 124 = .ok (.if_icmp .ge 42, 3) := by decide +kernel
theorem dX7_text_127 : decode cX7_text 127 = .ok (.aload_n 0, 1) := by decide +kernel
theorem dX7_text_128 : decode cX7_text 128 = .ok (.getfield 9, 3) := by decide +kernel
theorem dX7_text_131 : decode cX7_text 131 = .ok (.iload_n 2, 1) := by decide +kernel
theorem dX7_text_132 : decode cX7_text 132 = .ok (.iconst 1, 1) := by decide +kernel
theorem dX7_text_133 : decode cX7_text 133 = .ok (.iadd, 1) := by decide +kernel
theorem dX7_text_134 : decode cX7_text 134 = .ok (.iload_n 3, 1) := by decide +kernel
theorem dX7_text_135 : decode cX7_text 135 = .ok (.iadd, 1) := by decide +kernel
theorem dX7_text_136 : decode cX7_text 136 = .ok (.aload_n 0, 1) := by decide +kernel
theorem dX7_text_137 : decode cX7_text 137 = .ok (.getfield 41, 3) := by decide +kernel
theorem dX7_text_140 : decode cX7_text 140 = .ok (.iload_n 3, 1) := by decide +kernel
theorem dX7_text_141 : decode cX7_text 141 = .ok (.iaload, 1) := by decide +kernel
theorem dX7_text_142 : decode cX7_text 142 = .ok (.iastore, 1) := by decide +kernel
theorem dX7_text_143 : decode cX7_text 143 = .ok (.aload_n 0, 1) := by decide +kernel
theorem dX7_text_144 : decode cX7_text 144 = .ok (.getfield 9, 3) := by decide +kernel
theorem dX7_text_147 : decode cX7_text 147 = .ok (.iload_n 2, 1) := by decide +kernel
theorem dX7_text_148 : decode cX7_text 148 = .ok (.bipush 61, 2) := by decide +kernel
theorem dX7_text_150 : decode cX7_text 150 = .ok (.iadd, 1) := by decide +kernel
theorem dX7_text_151 : decode cX7_text 151 = .ok (.iload_n 3, 1) := by decide +kernel
theorem dX7_text_152 : decode cX7_text 152 = .ok (.iadd, 1) := by decide +kernel
theorem dX7_text_153 : decode cX7_text 153 = .ok (.aload_n 0, 1) := by decide +kernel
theorem dX7_text_154 : decode cX7_text 154 = .ok (.getfield 44, 3) := by decide +kernel
theorem dX7_text_157 : decode cX7_text 157 = .ok (.iload_n 3, 1) := by decide +kernel
theorem dX7_text_158 : decode cX7_text 158 = .ok (.iaload, 1) := by decide +kernel
theorem dX7_text_159 : decode cX7_text 159 = .ok (.iastore, 1) := by decide +kernel
theorem dX7_text_160 : decode cX7_text 160 = .ok (.iinc 3 1, 3) := by decide +kernel
theorem dX7_text_163 : decode cX7_text 163 = .ok (.goto (-44), 3) := by decide +kernel
theorem dX7_text_166 : decode cX7_text 166 = .ok (.iconst 1, 1) := by decide +kernel
theorem dX7_text_167 : decode cX7_text 167 = .ok (.ireturn, 1) := by decide +kernel
theorem dX7_untell_0 : decode cX7_untell 0 = .ok (.iload_n 1, 1) := by decide +kernel
theorem dX7_untell_1 : decode cX7_untell 1 = .ok (.iconst 0, 1) := by decide +kernel
theorem dX7_untell_2 : decode cX7_untell 2 = .ok (.iconst 1, 1) := by decide +kernel
theorem dX7_untell_3 : decode cX7_untell 3 = .ok (.invokestatic 61, 3) := by decide +kernel
theorem dX7_untell_6 : decode cX7_untell 6 = .ok (.ifCond .ne 10, 3) := by decide +kernel
theorem dX7_untell_9 : decode cX7_untell 9 = .ok (.aload_n 0, 1) := by decide +kernel
theorem dX7_untell_10 : decode cX7_untell 10 = .ok (.ldc 125, 2) := by decide +kernel
theorem dX7_untell_12 : decode cX7_untell 12 = .ok (.invokevirtual 126, 3) := by decide +kernel
theorem dX7_untell_15 : decode cX7_untell 15 = .ok (.ireturn, 1) := by decide +kernel
theorem dX7_untell_16 : decode cX7_untell 16 = .ok (.aload_n 0, 1) := by decide +kernel
theorem dX7_untell_17 : decode cX7_untell 17 = .ok (.sipush 140, 3) := by decide +kernel
theorem dX7_untell_20 : decode cX7_untell 20 = .ok (.bipush 121, 2) := by decide +kernel
theorem dX7_untell_22 : decode cX7_untell 22 = .ok (.iload_n 1, 1) := by decide +kernel
theorem dX7_untell_23 : decode cX7_untell 23 = .ok (.imul, 1) := by decide +kernel
theorem dX7_untell_24 : decode cX7_untell 24 = .ok (.iadd, 1) := by decide +kernel
theorem dX7_untell_25 : decode cX7_untell 25 = .ok (.iconst 0, 1) := by decide +kernel
theorem dX7_untell_26 : decode cX7_untell 26 = .ok (.invokevirtual 137, 3) := by decide +kernel
theorem dX7_untell_29 : decode cX7_untell 29 = .ok (.ifCond .le 7, 3) := by decide +kernel
theorem dX7_untell_32 : decode cX7_untell 32 = .ok (.iconst 1, 1) := by decide +kernel
theorem dX7_untell_33 : decode cX7_untell 33 = .ok (.goto 4, 3) := by decide +kernel
theorem dX7_untell_36 : decode cX7_untell 36 = .ok (.iconst 0, 1) := by decide +kernel
theorem dX7_untell_37 : decode cX7_untell 37 = .ok (.ireturn, 1) := by decide +kernel
theorem dX7_twoOf_0 : decode cX7_twoOf 0 = .ok (.iload_n 0, 1) := by decide +kernel
theorem dX7_twoOf_1 : decode cX7_twoOf 1 = .ok (.tableswitch 202 37 62 #[143, 188, 202, 202, 202, 127, 119, 202, 123, 202, 131, 202, 202, 202, 202, 202, 202, 202, 202, 202, 202, 202, 202, 155, 166, 177], 119) := by decide +kernel
theorem dX7_twoOf_120 : decode cX7_twoOf 120 = .ok (.iload_n 1, 1) := by decide +kernel
theorem dX7_twoOf_121 : decode cX7_twoOf 121 = .ok (.iload_n 2, 1) := by decide +kernel
theorem dX7_twoOf_122 : decode cX7_twoOf 122 = .ok (.iadd, 1) := by decide +kernel
theorem dX7_twoOf_123 : decode cX7_twoOf 123 = .ok (.ireturn, 1) := by decide +kernel
theorem dX7_twoOf_124 : decode cX7_twoOf 124 = .ok (.iload_n 1, 1) := by decide +kernel
theorem dX7_twoOf_125 : decode cX7_twoOf 125 = .ok (.iload_n 2, 1) := by decide +kernel
theorem dX7_twoOf_126 : decode cX7_twoOf 126 = .ok (.isub, 1) := by decide +kernel
theorem dX7_twoOf_127 : decode cX7_twoOf 127 = .ok (.ireturn, 1) := by decide +kernel
theorem dX7_twoOf_128 : decode cX7_twoOf 128 = .ok (.iload_n 1, 1) := by decide +kernel
theorem dX7_twoOf_129 : decode cX7_twoOf 129 = .ok (.iload_n 2, 1) := by decide +kernel
theorem dX7_twoOf_130 : decode cX7_twoOf 130 = .ok (.imul, 1) := by decide +kernel
theorem dX7_twoOf_131 : decode cX7_twoOf 131 = .ok (.ireturn, 1) := by decide +kernel
theorem dX7_twoOf_132 : decode cX7_twoOf 132 = .ok (.iload_n 2, 1) := by decide +kernel
theorem dX7_twoOf_133 : decode cX7_twoOf 133 = .ok (.ifCond .ne 7, 3) := by decide +kernel
theorem dX7_twoOf_136 : decode cX7_twoOf 136 = .ok (.iconst 0, 1) := by decide +kernel
theorem dX7_twoOf_137 : decode cX7_twoOf 137 = .ok (.goto 6, 3) := by decide +kernel
theorem dX7_twoOf_140 : decode cX7_twoOf 140 = .ok (.iload_n 1, 1) := by decide +kernel
theorem dX7_twoOf_141 : decode cX7_twoOf 141 = .ok (.iload_n 2, 1) := by decide +kernel
theorem dX7_twoOf_142 : decode cX7_twoOf 142 = .ok (.idiv, 1) := by decide +kernel
theorem dX7_twoOf_143 : decode cX7_twoOf 143 = .ok (.ireturn, 1) := by decide +kernel
theorem dX7_twoOf_144 : decode cX7_twoOf 144 = .ok (.iload_n 2, 1) := by decide +kernel
theorem dX7_twoOf_145 : decode cX7_twoOf 145 = .ok (.ifCond .ne 7, 3) := by decide +kernel
theorem dX7_twoOf_148 : decode cX7_twoOf 148 = .ok (.iconst 0, 1) := by decide +kernel
theorem dX7_twoOf_149 : decode cX7_twoOf 149 = .ok (.goto 6, 3) := by decide +kernel
theorem dX7_twoOf_152 : decode cX7_twoOf 152 = .ok (.iload_n 1, 1) := by decide +kernel
theorem dX7_twoOf_153 : decode cX7_twoOf 153 = .ok (.iload_n 2, 1) := by decide +kernel
theorem dX7_twoOf_154 : decode cX7_twoOf 154 = .ok (.irem, 1) := by decide +kernel
theorem dX7_twoOf_155 : decode cX7_twoOf 155 = .ok (.ireturn, 1) := by decide +kernel
theorem dX7_twoOf_156 : decode cX7_twoOf 156 = .ok (.iload_n 1, 1) := by decide +kernel
theorem dX7_twoOf_157 : decode cX7_twoOf 157 = .ok (.iload_n 2, 1) := by decide +kernel
theorem dX7_twoOf_158 : decode cX7_twoOf 158 = .ok (.if_icmp .ge 7, 3) := by decide +kernel
theorem dX7_twoOf_161 : decode cX7_twoOf 161 = .ok (.iconst 1, 1) := by decide +kernel
theorem dX7_twoOf_162 : decode cX7_twoOf 162 = .ok (.goto 4, 3) := by decide +kernel
theorem dX7_twoOf_165 : decode cX7_twoOf 165 = .ok (.iconst 0, 1) := by decide +kernel
theorem dX7_twoOf_166 : decode cX7_twoOf 166 = .ok (.ireturn, 1) := by decide +kernel
theorem dX7_twoOf_167 : decode cX7_twoOf 167 = .ok (.iload_n 1, 1) := by decide +kernel
theorem dX7_twoOf_168 : decode cX7_twoOf 168 = .ok (.iload_n 2, 1) := by decide +kernel
theorem dX7_twoOf_169 : decode cX7_twoOf 169 = .ok (.if_icmp .ne 7, 3) := by decide +kernel
theorem dX7_twoOf_172 : decode cX7_twoOf 172 = .ok (.iconst 1, 1) := by decide +kernel
theorem dX7_twoOf_173 : decode cX7_twoOf 173 = .ok (.goto 4, 3) := by decide +kernel
theorem dX7_twoOf_176 : decode cX7_twoOf 176 = .ok (.iconst 0, 1) := by decide +kernel
theorem dX7_twoOf_177 : decode cX7_twoOf 177 = .ok (.ireturn, 1) := by decide +kernel
theorem dX7_twoOf_178 : decode cX7_twoOf 178 = .ok (.iload_n 1, 1) := by decide +kernel
theorem dX7_twoOf_179 : decode cX7_twoOf 179 = .ok (.iload_n 2, 1) := by decide +kernel
theorem dX7_twoOf_180 : decode cX7_twoOf 180 = .ok (.if_icmp .le 7, 3) := by decide +kernel
theorem dX7_twoOf_183 : decode cX7_twoOf 183 = .ok (.iconst 1, 1) := by decide +kernel
theorem dX7_twoOf_184 : decode cX7_twoOf 184 = .ok (.goto 4, 3) := by decide +kernel
theorem dX7_twoOf_187 : decode cX7_twoOf 187 = .ok (.iconst 0, 1) := by decide +kernel
theorem dX7_twoOf_188 : decode cX7_twoOf 188 = .ok (.ireturn, 1) := by decide +kernel
theorem dX7_twoOf_189 : decode cX7_twoOf 189 = .ok (.iload_n 1, 1) := by decide +kernel
theorem dX7_twoOf_190 : decode cX7_twoOf 190 = .ok (.ifCond .eq 11, 3) := by decide +kernel
theorem dX7_twoOf_193 : decode cX7_twoOf 193 = .ok (.iload_n 2, 1) := by decide +kernel
theorem dX7_twoOf_194 : decode cX7_twoOf 194 = .ok (.ifCond .eq 7, 3) := by decide +kernel
theorem dX7_twoOf_197 : decode cX7_twoOf 197 = .ok (.iconst 1, 1) := by decide +kernel
theorem dX7_twoOf_198 : decode cX7_twoOf 198 = .ok (.goto 4, 3) := by decide +kernel
theorem dX7_twoOf_201 : decode cX7_twoOf 201 = .ok (.iconst 0, 1) := by decide +kernel
theorem dX7_twoOf_202 : decode cX7_twoOf 202 = .ok (.ireturn, 1) := by decide +kernel
theorem dX7_twoOf_203 : decode cX7_twoOf 203 = .ok (.iload_n 1, 1) := by decide +kernel
theorem dX7_twoOf_204 : decode cX7_twoOf 204 = .ok (.ifCond .ne 7, 3) := by decide +kernel
theorem dX7_twoOf_207 : decode cX7_twoOf 207 = .ok (.iload_n 2, 1) := by decide +kernel
theorem dX7_twoOf_208 : decode cX7_twoOf 208 = .ok (.ifCond .eq 7, 3) := by decide +kernel
theorem dX7_twoOf_211 : decode cX7_twoOf 211 = .ok (.iconst 1, 1) := by decide +kernel
theorem dX7_twoOf_212 : decode cX7_twoOf 212 = .ok (.goto 4, 3) := by decide +kernel
theorem dX7_twoOf_215 : decode cX7_twoOf 215 = .ok (.iconst 0, 1) := by decide +kernel
theorem dX7_twoOf_216 : decode cX7_twoOf 216 = .ok (.ireturn, 1) := by decide +kernel
theorem dX7_works_0 : decode cX7_works 0 = .ok (.iconst 0, 1) := by decide +kernel
theorem dX7_works_1 : decode cX7_works 1 = .ok (.istore_n 2, 1) := by decide +kernel
theorem dX7_works_2 : decode cX7_works 2 = .ok (.iconst 0, 1) := by decide +kernel
theorem dX7_works_3 : decode cX7_works 3 = .ok (.istore_n 3, 1) := by decide +kernel
theorem dX7_works_4 : decode cX7_works 4 = .ok (.iload_n 3, 1) := by decide +kernel
theorem dX7_works_5 : decode cX7_works 5 = .ok (.aload_n 0, 1) := by decide +kernel
theorem dX7_works_6 : decode cX7_works 6 = .ok (.getfield 9, 3) := by decide +kernel
theorem dX7_works_9 : decode cX7_works 9 = .ok (.iload_n 1, 1) := by decide +kernel
theorem dX7_works_10 : decode cX7_works 10 = .ok (.iaload, 1) := by decide +kernel
theorem dX7_works_11 : decode cX7_works 11 = .ok (.if_icmp .ge 144, 3) := by decide +kernel
theorem dX7_works_14 : decode cX7_works 14 = .ok (.aload_n 0, 1) := by decide +kernel
theorem dX7_works_15 : decode cX7_works 15 = .ok (.getfield 9, 3) := by decide +kernel
theorem dX7_works_18 : decode cX7_works 18 = .ok (.iload_n 1, 1) := by decide +kernel
theorem dX7_works_19 : decode cX7_works 19 = .ok (.iconst 1, 1) := by decide +kernel
theorem dX7_works_20 : decode cX7_works 20 = .ok (.iadd, 1) := by decide +kernel
theorem dX7_works_21 : decode cX7_works 21 = .ok (.iload_n 3, 1) := by decide +kernel
theorem dX7_works_22 : decode cX7_works 22 = .ok (.iadd, 1) := by decide +kernel
theorem dX7_works_23 : decode cX7_works 23 = .ok (.iaload, 1) := by decide +kernel
theorem dX7_works_24 : decode cX7_works 24 = .ok (.istore 4, 2) := by decide +kernel
theorem dX7_works_26 : decode cX7_works 26 = .ok (.iload 4, 2) := by decide +kernel
theorem dX7_works_28 : decode cX7_works 28 = .ok (.iconst 1, 1) := by decide +kernel
theorem dX7_works_29 : decode cX7_works 29 = .ok (.if_icmp .eq 9, 3) := by decide +kernel
theorem dX7_works_32 : decode cX7_works 32 = .ok (.iload 4, 2) := by decide +kernel
theorem dX7_works_34 : decode cX7_works 34 = .ok (.iconst 2, 1) := by decide +kernel
theorem dX7_works_35 : decode cX7_works 35 = .ok (.if_icmp .ne 51, 3) := by decide +kernel
theorem dX7_works_38 : decode cX7_works 38 = .ok (.aload_n 0, 1) := by decide +kernel
theorem dX7_works_39 : decode cX7_works 39 = .ok (.getfield 50, 3) := by decide +kernel
theorem dX7_works_42 : decode cX7_works 42 = .ok (.iload_n 2, 1) := by decide +kernel
theorem dX7_works_43 : decode cX7_works 43 = .ok (.iload 4, 2) := by decide +kernel
theorem dX7_works_45 : decode cX7_works 45 = .ok (.iconst 1, 1) := by decide +kernel
theorem dX7_works_46 : decode cX7_works 46 = .ok (.if_icmp .ne 17, 3) := by decide +kernel
theorem dX7_works_49 : decode cX7_works 49 = .ok (.aload_n 0, 1) := by decide +kernel
theorem dX7_works_50 : decode cX7_works 50 = .ok (.getfield 9, 3) := by decide +kernel
theorem dX7_works_53 : decode cX7_works 53 = .ok (.iload_n 1, 1) := by decide +kernel
theorem dX7_works_54 : decode cX7_works 54 = .ok (.bipush 61, 2) := by decide +kernel
theorem dX7_works_56 : decode cX7_works 56 = .ok (.iadd, 1) := by decide +kernel
theorem dX7_works_57 : decode cX7_works 57 = .ok (.iload_n 3, 1) := by decide +kernel
theorem dX7_works_58 : decode cX7_works 58 = .ok (.iadd, 1) := by decide +kernel
theorem dX7_works_59 : decode cX7_works 59 = .ok (.iaload, 1) := by decide +kernel
theorem dX7_works_60 : decode cX7_works 60 = .ok (.goto 19, 3) := by decide +kernel
theorem dX7_works_63 : decode cX7_works 63 = .ok (.aload_n 0, 1) := by decide +kernel
theorem dX7_works_64 : decode cX7_works 64 = .ok (.getfield 47, 3) := by decide +kernel
theorem dX7_works_67 : decode cX7_works 67 = .ok (.aload_n 0, 1) := by decide +kernel
theorem dX7_works_68 : decode cX7_works 68 = .ok (.getfield 9, 3) := by decide +kernel
theorem dX7_works_71 : decode cX7_works 71 = .ok (.iload_n 1, 1) := by decide +kernel
theorem dX7_works_72 : decode cX7_works 72 = .ok (.bipush 61, 2) := by decide +kernel
theorem dX7_works_74 : decode cX7_works 74 = .ok (.iadd, 1) := by decide +kernel
theorem dX7_works_75 : decode cX7_works 75 = .ok (.iload_n 3, 1) := by decide +kernel
theorem dX7_works_76 : decode cX7_works 76 = .ok (.iadd, 1) := by decide +kernel
theorem dX7_works_77 : decode cX7_works 77 = .ok (.iaload, 1) := by decide +kernel
theorem dX7_works_78 : decode cX7_works 78 = .ok (.iaload, 1) := by decide +kernel
theorem dX7_works_79 : decode cX7_works 79 = .ok (.iastore, 1) := by decide +kernel
theorem dX7_works_80 : decode cX7_works 80 = .ok (.iinc 2 1, 3) := by decide +kernel
theorem dX7_works_83 : decode cX7_works 83 = .ok (.goto 66, 3) := by decide +kernel
theorem dX7_works_86 : decode cX7_works 86 = .ok (.iload 4, 2) := by decide +kernel
theorem dX7_works_88 : decode cX7_works 88 = .ok (.iconst 3, 1) := by decide +kernel
theorem dX7_works_89 : decode cX7_works 89 = .ok (.if_icmp .ne 30, 3) := by decide +kernel
theorem dX7_works_92 : decode cX7_works 92 = .ok (.aload_n 0, 1) := by decide +kernel
theorem dX7_works_93 : decode cX7_works 93 = .ok (.getfield 50, 3) := by decide +kernel
theorem dX7_works_96 : decode cX7_works 96 = .ok (.iload_n 2, 1) := by decide +kernel
theorem dX7_works_97 : decode cX7_works 97 = .ok (.iconst 1, 1) := by decide +kernel
theorem dX7_works_98 : decode cX7_works 98 = .ok (.isub, 1) := by decide +kernel
theorem dX7_works_99 : decode cX7_works 99 = .ok (.aload_n 0, 1) := by decide +kernel
theorem dX7_works_100 : decode cX7_works 100 = .ok (.getfield 50, 3) := by decide +kernel
theorem dX7_works_103 : decode cX7_works 103 = .ok (.iload_n 2, 1) := by decide +kernel
theorem dX7_works_104 : decode cX7_works 104 = .ok (.iconst 1, 1) := by decide +kernel
theorem dX7_works_105 : decode cX7_works 105 = .ok (.isub, 1) := by decide +kernel
theorem dX7_works_106 : decode cX7_works 106 = .ok (.iaload, 1) := by decide +kernel
theorem dX7_works_107 : decode cX7_works 107 = .ok (.ifCond .ne 7, 3) := by decide +kernel
theorem dX7_works_110 : decode cX7_works 110 = .ok (.iconst 1, 1) := by decide +kernel
theorem dX7_works_111 : decode cX7_works 111 = .ok (.goto 4, 3) := by decide +kernel
theorem dX7_works_114 : decode cX7_works 114 = .ok (.iconst 0, 1) := by decide +kernel
theorem dX7_works_115 : decode cX7_works 115 = .ok (.iastore, 1) := by decide +kernel
theorem dX7_works_116 : decode cX7_works 116 = .ok (.goto 33, 3) := by decide +kernel
theorem dX7_works_119 : decode cX7_works 119 = .ok (.iinc 2 (-1), 3) := by decide +kernel
theorem dX7_works_122 : decode cX7_works 122 = .ok (.aload_n 0, 1) := by decide +kernel
theorem dX7_works_123 : decode cX7_works 123 = .ok (.getfield 50, 3) := by decide +kernel
theorem dX7_works_126 : decode cX7_works 126 = .ok (.iload_n 2, 1) := by decide +kernel
theorem dX7_works_127 : decode cX7_works 127 = .ok (.iconst 1, 1) := by decide +kernel
theorem dX7_works_128 : decode cX7_works 128 = .ok (.isub, 1) := by decide +kernel
theorem dX7_works_129 : decode cX7_works 129 = .ok (.iload 4, 2) := by decide +kernel
theorem dX7_works_131 : decode cX7_works 131 = .ok (.aload_n 0, 1) := by decide +kernel
theorem dX7_works_132 : decode cX7_works 132 = .ok (.getfield 50, 3) := by decide +kernel
theorem dX7_works_135 : decode cX7_works 135 = .ok (.iload_n 2, 1) := by decide +kernel
theorem dX7_works_136 : decode cX7_works 136 = .ok (.iconst 1, 1) := by decide +kernel
theorem dX7_works_137 : decode cX7_works 137 = .ok (.isub, 1) := by decide +kernel
theorem dX7_works_138 : decode cX7_works 138 = .ok (.iaload, 1) := by decide +kernel
theorem dX7_works_139 : decode cX7_works 139 = .ok (.aload_n 0, 1) := by decide +kernel
theorem dX7_works_140 : decode cX7_works 140 = .ok (.getfield 50, 3) := by decide +kernel
theorem dX7_works_143 : decode cX7_works 143 = .ok (.iload_n 2, 1) := by decide +kernel
theorem dX7_works_144 : decode cX7_works 144 = .ok (.iaload, 1) := by decide +kernel
theorem dX7_works_145 : decode cX7_works 145 = .ok (.invokestatic 195, 3) := by decide +kernel
theorem dX7_works_148 : decode cX7_works 148 = .ok (.iastore, 1) := by decide +kernel
theorem dX7_works_149 : decode cX7_works 149 = .ok (.iinc 3 1, 3) := by decide +kernel
theorem dX7_works_152 : decode cX7_works 152 = .ok (.goto (-148), 3) := by decide +kernel
theorem dX7_works_155 : decode cX7_works 155 = .ok (.aload_n 0, 1) := by decide +kernel
theorem dX7_works_156 : decode cX7_works 156 = .ok (.getfield 50, 3) := by decide +kernel
theorem dX7_works_159 : decode cX7_works 159 = .ok (.iconst 0, 1) := by decide +kernel
theorem dX7_works_160 : decode cX7_works 160 = .ok (.iaload, 1) := by decide +kernel
theorem dX7_works_161 : decode cX7_works 161 = .ok (.ireturn, 1) := by decide +kernel
theorem dX7_gives_0 : decode cX7_gives 0 = .ok (.sipush 140, 3) := by decide +kernel
theorem dX7_gives_3 : decode cX7_gives 3 = .ok (.bipush 121, 2) := by decide +kernel
theorem dX7_gives_5 : decode cX7_gives 5 = .ok (.iload_n 1, 1) := by decide +kernel
theorem dX7_gives_6 : decode cX7_gives 6 = .ok (.imul, 1) := by decide +kernel
theorem dX7_gives_7 : decode cX7_gives 7 = .ok (.iadd, 1) := by decide +kernel
theorem dX7_gives_8 : decode cX7_gives 8 = .ok (.istore 5, 2) := by decide +kernel
theorem dX7_gives_10 : decode cX7_gives 10 = .ok (.aload_n 0, 1) := by decide +kernel
theorem dX7_gives_11 : decode cX7_gives 11 = .ok (.getfield 47, 3) := by decide +kernel
theorem dX7_gives_14 : decode cX7_gives 14 = .ok (.iconst 0, 1) := by decide +kernel
theorem dX7_gives_15 : decode cX7_gives 15 = .ok (.iload_n 2, 1) := by decide +kernel
theorem dX7_gives_16 : decode cX7_gives 16 = .ok (.iastore, 1) := by decide +kernel
theorem dX7_gives_17 : decode cX7_gives 17 = .ok (.aload_n 0, 1) := by decide +kernel
theorem dX7_gives_18 : decode cX7_gives 18 = .ok (.getfield 47, 3) := by decide +kernel
theorem dX7_gives_21 : decode cX7_gives 21 = .ok (.iconst 1, 1) := by decide +kernel
theorem dX7_gives_22 : decode cX7_gives 22 = .ok (.iload_n 3, 1) := by decide +kernel
theorem dX7_gives_23 : decode cX7_gives 23 = .ok (.iastore, 1) := by decide +kernel
theorem dX7_gives_24 : decode cX7_gives 24 = .ok (.aload_n 0, 1) := by decide +kernel
theorem dX7_gives_25 : decode cX7_gives 25 = .ok (.getfield 47, 3) := by decide +kernel
theorem dX7_gives_28 : decode cX7_gives 28 = .ok (.iconst 2, 1) := by decide +kernel
theorem dX7_gives_29 : decode cX7_gives 29 = .ok (.iload 4, 2) := by decide +kernel
theorem dX7_gives_31 : decode cX7_gives 31 = .ok (.iastore, 1) := by decide +kernel
theorem dX7_gives_32 : decode cX7_gives 32 = .ok (.aload_n 0, 1) := by decide +kernel
theorem dX7_gives_33 : decode cX7_gives 33 = .ok (.getfield 9, 3) := by decide +kernel
theorem dX7_gives_36 : decode cX7_gives 36 = .ok (.iload 5, 2) := by decide +kernel
theorem dX7_gives_38 : decode cX7_gives 38 = .ok (.iaload, 1) := by decide +kernel
theorem dX7_gives_39 : decode cX7_gives 39 = .ok (.ifCond .le 12, 3) := by decide +kernel
theorem dX7_gives_42 : decode cX7_gives 42 = .ok (.aload_n 0, 1) := by decide +kernel
theorem dX7_gives_43 : decode cX7_gives 43 = .ok (.iload 5, 2) := by decide +kernel
theorem dX7_gives_45 : decode cX7_gives 45 = .ok (.invokevirtual 199, 3) := by decide +kernel
theorem dX7_gives_48 : decode cX7_gives 48 = .ok (.goto 4, 3) := by decide +kernel
theorem dX7_gives_51 : decode cX7_gives 51 = .ok (.iload_n 2, 1) := by decide +kernel
theorem dX7_gives_52 : decode cX7_gives 52 = .ok (.istore 6, 2) := by decide +kernel
theorem dX7_gives_54 : decode cX7_gives 54 = .ok (.iload_n 1, 1) := by decide +kernel
theorem dX7_gives_55 : decode cX7_gives 55 = .ok (.ifCond .ne 13, 3) := by decide +kernel
theorem dX7_gives_58 : decode cX7_gives 58 = .ok (.iload 6, 2) := by decide +kernel
theorem dX7_gives_60 : decode cX7_gives 60 = .ok (.iconst 1, 1) := by decide +kernel
theorem dX7_gives_61 : decode cX7_gives 61 = .ok (.iconst 4, 1) := by decide +kernel
theorem dX7_gives_62 : decode cX7_gives 62 = .ok (.invokestatic 202, 3) := by decide +kernel
theorem dX7_gives_65 : decode cX7_gives 65 = .ok (.goto 12, 3) := by decide +kernel
theorem dX7_gives_68 : decode cX7_gives 68 = .ok (.iload 6, 2) := by decide +kernel
theorem dX7_gives_70 : decode cX7_gives 70 = .ok (.bipush (-30), 2) := by decide +kernel
theorem dX7_gives_72 : decode cX7_gives 72 = .ok (.bipush 30, 2) := by decide +kernel
theorem dX7_gives_74 : decode cX7_gives 74 = .ok (.invokestatic 202, 3) := by decide +kernel
theorem dX7_gives_77 : decode cX7_gives 77 = .ok (.ireturn, 1) := by decide +kernel
theorem dX7_law_0 : decode cX7_law 0 = .ok (.iload_n 1, 1) := by decide +kernel
theorem dX7_law_1 : decode cX7_law 1 = .ok (.iconst 0, 1) := by decide +kernel
theorem dX7_law_2 : decode cX7_law 2 = .ok (.iconst 1, 1) := by decide +kernel
theorem dX7_law_3 : decode cX7_law 3 = .ok (.invokestatic 61, 3) := by decide +kernel
theorem dX7_law_6 : decode cX7_law 6 = .ok (.ifCond .eq 15, 3) := by decide +kernel
theorem dX7_law_9 : decode cX7_law 9 = .ok (.aload_n 0, 1) := by decide +kernel
theorem dX7_law_10 : decode cX7_law 10 = .ok (.iload_n 1, 1) := by decide +kernel
theorem dX7_law_11 : decode cX7_law 11 = .ok (.iload_n 2, 1) := by decide +kernel
theorem dX7_law_12 : decode cX7_law 12 = .ok (.iload_n 3, 1) := by decide +kernel
theorem dX7_law_13 : decode cX7_law 13 = .ok (.iload 4, 2) := by decide +kernel
theorem dX7_law_15 : decode cX7_law 15 = .ok (.invokevirtual 76, 3) := by decide +kernel
theorem dX7_law_18 : decode cX7_law 18 = .ok (.goto 9, 3) := by decide +kernel
theorem dX7_law_21 : decode cX7_law 21 = .ok (.aload_n 0, 1) := by decide +kernel
theorem dX7_law_22 : decode cX7_law 22 = .ok (.ldc 125, 2) := by decide +kernel
theorem dX7_law_24 : decode cX7_law 24 = .ok (.invokevirtual 126, 3) := by decide +kernel
theorem dX7_law_27 : decode cX7_law 27 = .ok (.ireturn, 1) := by decide +kernel
theorem dX7_goes_0 : decode cX7_goes 0 = .ok (.aload_n 0, 1) := by decide +kernel
theorem dX7_goes_1 : decode cX7_goes 1 = .ok (.invokevirtual 205, 3) := by decide +kernel
theorem dX7_goes_4 : decode cX7_goes 4 = .ok (.ifCond .eq 57, 3) := by decide +kernel
theorem dX7_goes_7 : decode cX7_goes 7 = .ok (.aload_n 0, 1) := by decide +kernel
theorem dX7_goes_8 : decode cX7_goes 8 = .ok (.invokevirtual 209, 3) := by decide +kernel
theorem dX7_goes_11 : decode cX7_goes 11 = .ok (.istore_n 1, 1) := by decide +kernel
theorem dX7_goes_12 : decode cX7_goes 12 = .ok (.aload_n 0, 1) := by decide +kernel
theorem dX7_goes_13 : decode cX7_goes 13 = .ok (.iload_n 1, 1) := by decide +kernel
theorem dX7_goes_14 : decode cX7_goes 14 = .ok (.invokevirtual 116, 3) := by decide +kernel
theorem dX7_goes_17 : decode cX7_goes 17 = .ok (.aload_n 0, 1) := by decide +kernel
theorem dX7_goes_18 : decode cX7_goes 18 = .ok (.getfield 9, 3) := by decide +kernel
theorem dX7_goes_21 : decode cX7_goes 21 = .ok (.iconst 4, 1) := by decide +kernel
theorem dX7_goes_22 : decode cX7_goes 22 = .ok (.iaload, 1) := by decide +kernel
theorem dX7_goes_23 : decode cX7_goes 23 = .ok (.i2l, 1) := by decide +kernel
theorem dX7_goes_24 : decode cX7_goes 24 = .ok (.aload_n 0, 1) := by decide +kernel
theorem dX7_goes_25 : decode cX7_goes 25 = .ok (.getfield 108, 3) := by decide +kernel
theorem dX7_goes_28 : decode cX7_goes 28 = .ok (.lmul, 1) := by decide +kernel
theorem dX7_goes_29 : decode cX7_goes 29 = .ok (.lcmp, 1) := by decide +kernel
theorem dX7_goes_30 : decode cX7_goes 30 = .ok (.ifCond .le 31, 3) := by decide +kernel
theorem dX7_goes_33 : decode cX7_goes 33 = .ok (.aload_n 0, 1) := by decide +kernel
theorem dX7_goes_34 : decode cX7_goes 34 = .ok (.iload_n 1, 1) := by decide +kernel
theorem dX7_goes_35 : decode cX7_goes 35 = .ok (.iconst 5, 1) := by decide +kernel
theorem dX7_goes_36 : decode cX7_goes 36 = .ok (.iconst 0, 1) := by decide +kernel
theorem dX7_goes_37 : decode cX7_goes 37 = .ok (.invokevirtual 130, 3) := by decide +kernel
theorem dX7_goes_40 : decode cX7_goes 40 = .ok (.aload_n 0, 1) := by decide +kernel
theorem dX7_goes_41 : decode cX7_goes 41 = .ok (.getfield 9, 3) := by decide +kernel
theorem dX7_goes_44 : decode cX7_goes 44 = .ok (.iconst 5, 1) := by decide +kernel
theorem dX7_goes_45 : decode cX7_goes 45 = .ok (.aload_n 0, 1) := by decide +kernel
theorem dX7_goes_46 : decode cX7_goes 46 = .ok (.getfield 9, 3) := by decide +kernel
theorem dX7_goes_49 : decode cX7_goes 49 = .ok (.iconst 5, 1) := by decide +kernel
theorem dX7_goes_50 : decode cX7_goes 50 = .ok (.iaload, 1) := by decide +kernel
theorem dX7_goes_51 : decode cX7_goes 51 = .ok (.iconst 1, 1) := by decide +kernel
theorem dX7_goes_52 : decode cX7_goes 52 = .ok (.iadd, 1) := by decide +kernel
theorem dX7_goes_53 : decode cX7_goes 53 = .ok (.iconst 0, 1) := by decide +kernel
theorem dX7_goes_54 : decode cX7_goes 54 = .ok (.sipush 9999, 3) := by decide +kernel
theorem dX7_goes_57 : decode cX7_goes 57 = .ok (.invokestatic 202, 3) := by decide +kernel
theorem dX7_goes_60 : decode cX7_goes 60 = .ok (.iastore, 1) := by decide +kernel
theorem dX7_goes_61 : decode cX7_goes 61 = .ok (.aload_n 0, 1) := by decide +kernel
theorem dX7_goes_62 : decode cX7_goes 62 = .ok (.getfield 9, 3) := by decide +kernel
theorem dX7_goes_65 : decode cX7_goes 65 = .ok (.iconst 0, 1) := by decide +kernel
theorem dX7_goes_66 : decode cX7_goes 66 = .ok (.dup2, 1) := by decide +kernel
theorem dX7_goes_67 : decode cX7_goes 67 = .ok (.iaload, 1) := by decide +kernel
theorem dX7_goes_68 : decode cX7_goes 68 = .ok (.iconst 1, 1) := by decide +kernel
theorem dX7_goes_69 : decode cX7_goes 69 = .ok (.iadd, 1) := by decide +kernel
theorem dX7_goes_70 : decode cX7_goes 70 = .ok (.iastore, 1) := by decide +kernel
theorem dX7_goes_71 : decode cX7_goes 71 = .ok (.return_, 1) := by decide +kernel
theorem dX7_goesFor_0 : decode cX7_goesFor 0 = .ok (.iconst 0, 1) := by decide +kernel
theorem dX7_goesFor_1 : decode cX7_goesFor 1 = .ok (.istore_n 2, 1) := by decide +kernel
theorem dX7_goesFor_2 : decode cX7_goesFor 2 = .ok (.iload_n 2, 1) := by decide +kernel
theorem dX7_goesFor_3 : decode cX7_goesFor 3 = .ok (.iload_n 1, 1) := by decide +kernel
theorem dX7_goesFor_4 : decode cX7_goesFor 4 = .ok (.if_icmp .ge 13, 3) := by decide +kernel
theorem dX7_goesFor_7 : decode cX7_goesFor 7 = .ok (.aload_n 0, 1) := by decide +kernel
theorem dX7_goesFor_8 : decode cX7_goesFor 8 = .ok (.invokevirtual 212, 3) := by decide +kernel
theorem dX7_goesFor_11 : decode cX7_goesFor 11 = .ok (.iinc 2 1, 3) := by decide +kernel
theorem dX7_goesFor_14 : decode cX7_goesFor 14 = .ok (.goto (-12), 3) := by decide +kernel
theorem dX7_goesFor_17 : decode cX7_goesFor 17 = .ok (.return_, 1) := by decide +kernel
theorem dX7_rounds_0 : decode cX7_rounds 0 = .ok (.iload_n 1, 1) := by decide +kernel
theorem dX7_rounds_1 : decode cX7_rounds 1 = .ok (.iconst 1, 1) := by decide +kernel
theorem dX7_rounds_2 : decode cX7_rounds 2 = .ok (.bipush 60, 2) := by decide +kernel
theorem dX7_rounds_4 : decode cX7_rounds 4 = .ok (.invokestatic 61, 3) := by decide +kernel
theorem dX7_rounds_7 : decode cX7_rounds 7 = .ok (.ifCond .ne 10, 3) := by decide +kernel
theorem dX7_rounds_10 : decode cX7_rounds 10 = .ok (.aload_n 0, 1) := by decide +kernel
theorem dX7_rounds_11 : decode cX7_rounds 11 = .ok (.ldc 125, 2) := by decide +kernel
theorem dX7_rounds_13 : decode cX7_rounds 13 = .ok (.invokevirtual 126, 3) := by decide +kernel
theorem dX7_rounds_16 : decode cX7_rounds 16 = .ok (.ireturn, 1) := by decide +kernel
theorem dX7_rounds_17 : decode cX7_rounds 17 = .ok (.aload_n 0, 1) := by decide +kernel
theorem dX7_rounds_18 : decode cX7_rounds 18 = .ok (.getfield 9, 3) := by decide +kernel
theorem dX7_rounds_21 : decode cX7_rounds 21 = .ok (.iconst 0, 1) := by decide +kernel
theorem dX7_rounds_22 : decode cX7_rounds 22 = .ok (.iaload, 1) := by decide +kernel
theorem dX7_rounds_23 : decode cX7_rounds 23 = .ok (.iload_n 1, 1) := by decide +kernel
theorem dX7_rounds_24 : decode cX7_rounds 24 = .ok (.iadd, 1) := by decide +kernel
theorem dX7_rounds_25 : decode cX7_rounds 25 = .ok (.sipush 9999, 3) := by decide +kernel
theorem dX7_rounds_28 : decode cX7_rounds 28 = .ok (.if_icmp .le 10, 3) := by decide +kernel
theorem dX7_rounds_31 : decode cX7_rounds 31 = .ok (.aload_n 0, 1) := by decide +kernel
theorem dX7_rounds_32 : decode cX7_rounds 32 = .ok (.ldc 141, 2) := by decide +kernel
theorem dX7_rounds_34 : decode cX7_rounds 34 = .ok (.invokevirtual 126, 3) := by decide +kernel
theorem dX7_rounds_37 : decode cX7_rounds 37 = .ok (.ireturn, 1) := by decide +kernel
theorem dX7_rounds_38 : decode cX7_rounds 38 = .ok (.aload_n 0, 1) := by decide +kernel
theorem dX7_rounds_39 : decode cX7_rounds 39 = .ok (.iload_n 1, 1) := by decide +kernel
theorem dX7_rounds_40 : decode cX7_rounds 40 = .ok (.invokevirtual 215, 3) := by decide +kernel
theorem dX7_rounds_43 : decode cX7_rounds 43 = .ok (.aload_n 0, 1) := by decide +kernel
theorem dX7_rounds_44 : decode cX7_rounds 44 = .ok (.invokevirtual 96, 3) := by decide +kernel
theorem dX7_rounds_47 : decode cX7_rounds 47 = .ok (.invokestatic 218, 3) := by decide +kernel
theorem dX7_rounds_50 : decode cX7_rounds 50 = .ok (.ireturn, 1) := by decide +kernel
theorem dX7_draw_0 : decode cX7_draw 0 = .ok (.aload_n 0, 1) := by decide +kernel
theorem dX7_draw_1 : decode cX7_draw 1 = .ok (.getfield 9, 3) := by decide +kernel
theorem dX7_draw_4 : decode cX7_draw 4 = .ok (.iconst 1, 1) := by decide +kernel
theorem dX7_draw_5 : decode cX7_draw 5 = .ok (.aload_n 0, 1) := by decide +kernel
theorem dX7_draw_6 : decode cX7_draw 6 = .ok (.getfield 9, 3) := by decide +kernel
theorem dX7_draw_9 : decode cX7_draw 9 = .ok (.iconst 1, 1) := by decide +kernel
theorem dX7_draw_10 : decode cX7_draw 10 = .ok (.iaload, 1) := by decide +kernel
theorem dX7_draw_11 : decode cX7_draw 11 = .ok (.ldc 221, 2) := by decide +kernel
theorem dX7_draw_13 : decode cX7_draw 13 = .ok (.imul, 1) := by decide +kernel
theorem dX7_draw_14 : decode cX7_draw 14 = .ok (.sipush 12345, 3) := by decide +kernel
theorem dX7_draw_17 : decode cX7_draw 17 = .ok (.iadd, 1) := by decide +kernel
theorem dX7_draw_18 : decode cX7_draw 18 = .ok (.iastore, 1) := by decide +kernel
theorem dX7_draw_19 : decode cX7_draw 19 = .ok (.aload_n 0, 1) := by decide +kernel
theorem dX7_draw_20 : decode cX7_draw 20 = .ok (.getfield 9, 3) := by decide +kernel
theorem dX7_draw_23 : decode cX7_draw 23 = .ok (.iconst 1, 1) := by decide +kernel
theorem dX7_draw_24 : decode cX7_draw 24 = .ok (.iaload, 1) := by decide +kernel
theorem dX7_draw_25 : decode cX7_draw 25 = .ok (.bipush 8, 2) := by decide +kernel
theorem dX7_draw_27 : decode cX7_draw 27 = .ok (.iushr, 1) := by decide +kernel
theorem dX7_draw_28 : decode cX7_draw 28 = .ok (.ireturn, 1) := by decide +kernel
theorem dX7_drawn_0 : decode cX7_drawn 0 = .ok (.aload_n 0, 1) := by decide +kernel
theorem dX7_drawn_1 : decode cX7_drawn 1 = .ok (.getfield 9, 3) := by decide +kernel
theorem dX7_drawn_4 : decode cX7_drawn 4 = .ok (.iconst 2, 1) := by decide +kernel
theorem dX7_drawn_5 : decode cX7_drawn 5 = .ok (.iaload, 1) := by decide +kernel
theorem dX7_drawn_6 : decode cX7_drawn 6 = .ok (.ifCond .le 38, 3) := by decide +kernel
theorem dX7_drawn_9 : decode cX7_drawn 9 = .ok (.aload_n 0, 1) := by decide +kernel
theorem dX7_drawn_10 : decode cX7_drawn 10 = .ok (.invokevirtual 222, 3) := by decide +kernel
theorem dX7_drawn_13 : decode cX7_drawn 13 = .ok (.aload_n 0, 1) := by decide +kernel
theorem dX7_drawn_14 : decode cX7_drawn 14 = .ok (.getfield 9, 3) := by decide +kernel
theorem dX7_drawn_17 : decode cX7_drawn 17 = .ok (.iconst 2, 1) := by decide +kernel
theorem dX7_drawn_18 : decode cX7_drawn 18 = .ok (.iaload, 1) := by decide +kernel
theorem dX7_drawn_19 : decode cX7_drawn 19 = .ok (.irem, 1) := by decide +kernel
theorem dX7_drawn_20 : decode cX7_drawn 20 = .ok (.istore_n 1, 1) := by decide +kernel
theorem dX7_drawn_21 : decode cX7_drawn 21 = .ok (.aload_n 0, 1) := by decide +kernel
theorem dX7_drawn_22 : decode cX7_drawn 22 = .ok (.iload_n 1, 1) := by decide +kernel
theorem dX7_drawn_23 : decode cX7_drawn 23 = .ok (.iconst 4, 1) := by decide +kernel
theorem dX7_drawn_24 : decode cX7_drawn 24 = .ok (.aload_n 0, 1) := by decide +kernel
theorem dX7_drawn_25 : decode cX7_drawn 25 = .ok (.invokevirtual 222, 3) := by decide +kernel
theorem dX7_drawn_28 : decode cX7_drawn 28 = .ok (.bipush 41, 2) := by decide +kernel
theorem dX7_drawn_30 : decode cX7_drawn 30 = .ok (.irem, 1) := by decide +kernel
theorem dX7_drawn_31 : decode cX7_drawn 31 = .ok (.bipush 20, 2) := by decide +kernel
theorem dX7_drawn_33 : decode cX7_drawn 33 = .ok (.isub, 1) := by decide +kernel
theorem dX7_drawn_34 : decode cX7_drawn 34 = .ok (.invokevirtual 130, 3) := by decide +kernel
theorem dX7_drawn_37 : decode cX7_drawn 37 = .ok (.aload_n 0, 1) := by decide +kernel
theorem dX7_drawn_38 : decode cX7_drawn 38 = .ok (.iload_n 1, 1) := by decide +kernel
theorem dX7_drawn_39 : decode cX7_drawn 39 = .ok (.iconst 5, 1) := by decide +kernel
theorem dX7_drawn_40 : decode cX7_drawn 40 = .ok (.iconst 1, 1) := by decide +kernel
theorem dX7_drawn_41 : decode cX7_drawn 41 = .ok (.invokevirtual 130, 3) := by decide +kernel
theorem dX7_drawn_44 : decode cX7_drawn 44 = .ok (.aload_n 0, 1) := by decide +kernel
theorem dX7_drawn_45 : decode cX7_drawn 45 = .ok (.invokevirtual 212, 3) := by decide +kernel
theorem dX7_drawn_48 : decode cX7_drawn 48 = .ok (.return_, 1) := by decide +kernel
theorem dX7_loose_0 : decode cX7_loose 0 = .ok (.iload_n 1, 1) := by decide +kernel
theorem dX7_loose_1 : decode cX7_loose 1 = .ok (.iconst 1, 1) := by decide +kernel
theorem dX7_loose_2 : decode cX7_loose 2 = .ok (.bipush 30, 2) := by decide +kernel
theorem dX7_loose_4 : decode cX7_loose 4 = .ok (.invokestatic 61, 3) := by decide +kernel
theorem dX7_loose_7 : decode cX7_loose 7 = .ok (.ifCond .ne 10, 3) := by decide +kernel
theorem dX7_loose_10 : decode cX7_loose 10 = .ok (.aload_n 0, 1) := by decide +kernel
theorem dX7_loose_11 : decode cX7_loose 11 = .ok (.ldc 125, 2) := by decide +kernel
theorem dX7_loose_13 : decode cX7_loose 13 = .ok (.invokevirtual 126, 3) := by decide +kernel
theorem dX7_loose_16 : decode cX7_loose 16 = .ok (.ireturn, 1) := by decide +kernel
theorem dX7_loose_17 : decode cX7_loose 17 = .ok (.aload_n 0, 1) := by decide +kernel
theorem dX7_loose_18 : decode cX7_loose 18 = .ok (.getfield 9, 3) := by decide +kernel
theorem dX7_loose_21 : decode cX7_loose 21 = .ok (.iconst 0, 1) := by decide +kernel
theorem dX7_loose_22 : decode cX7_loose 22 = .ok (.iaload, 1) := by decide +kernel
theorem dX7_loose_23 : decode cX7_loose 23 = .ok (.iload_n 1, 1) := by decide +kernel
theorem dX7_loose_24 : decode cX7_loose 24 = .ok (.iadd, 1) := by decide +kernel
theorem dX7_loose_25 : decode cX7_loose 25 = .ok (.sipush 9999, 3) := by decide +kernel
theorem dX7_loose_28 : decode cX7_loose 28 = .ok (.if_icmp .le 10, 3) := by decide +kernel
theorem dX7_loose_31 : decode cX7_loose 31 = .ok (.aload_n 0, 1) := by decide +kernel
theorem dX7_loose_32 : decode cX7_loose 32 = .ok (.ldc 141, 2) := by decide +kernel
theorem dX7_loose_34 : decode cX7_loose 34 = .ok (.invokevirtual 126, 3) := by decide +kernel
theorem dX7_loose_37 : decode cX7_loose 37 = .ok (.ireturn, 1) := by decide +kernel
theorem dX7_loose_38 : decode cX7_loose 38 = .ok (.iconst 0, 1) := by decide +kernel
theorem dX7_loose_39 : decode cX7_loose 39 = .ok (.istore_n 2, 1) := by decide +kernel
theorem dX7_loose_40 : decode cX7_loose 40 = .ok (.iload_n 2, 1) := by decide +kernel
theorem dX7_loose_41 : decode cX7_loose 41 = .ok (.iload_n 1, 1) := by decide +kernel
theorem dX7_loose_42 : decode cX7_loose 42 = .ok (.if_icmp .ge 13, 3) := by decide +kernel
theorem dX7_loose_45 : decode cX7_loose 45 = .ok (.aload_n 0, 1) := by decide +kernel
theorem dX7_loose_46 : decode cX7_loose 46 = .ok (.invokevirtual 225, 3) := by decide +kernel
theorem dX7_loose_49 : decode cX7_loose 49 = .ok (.iinc 2 1, 3) := by decide +kernel
theorem dX7_loose_52 : decode cX7_loose 52 = .ok (.goto (-12), 3) := by decide +kernel
theorem dX7_loose_55 : decode cX7_loose 55 = .ok (.aload_n 0, 1) := by decide +kernel
theorem dX7_loose_56 : decode cX7_loose 56 = .ok (.invokevirtual 96, 3) := by decide +kernel
theorem dX7_loose_59 : decode cX7_loose 59 = .ok (.invokestatic 218, 3) := by decide +kernel
theorem dX7_loose_62 : decode cX7_loose 62 = .ok (.ireturn, 1) := by decide +kernel
theorem dX7_round_0 : decode cX7_round 0 = .ok (.iload_n 1, 1) := by decide +kernel
theorem dX7_round_1 : decode cX7_round 1 = .ok (.iconst 0, 1) := by decide +kernel
theorem dX7_round_2 : decode cX7_round 2 = .ok (.sipush 9999, 3) := by decide +kernel
theorem dX7_round_5 : decode cX7_round 5 = .ok (.invokestatic 61, 3) := by decide +kernel
theorem dX7_round_8 : decode cX7_round 8 = .ok (.ifCond .eq 12, 3) := by decide +kernel
theorem dX7_round_11 : decode cX7_round 11 = .ok (.aload_n 0, 1) := by decide +kernel
theorem dX7_round_12 : decode cX7_round 12 = .ok (.iconst 0, 1) := by decide +kernel
theorem dX7_round_13 : decode cX7_round 13 = .ok (.iload_n 1, 1) := by decide +kernel
theorem dX7_round_14 : decode cX7_round 14 = .ok (.invokevirtual 137, 3) := by decide +kernel
theorem dX7_round_17 : decode cX7_round 17 = .ok (.goto 9, 3) := by decide +kernel
theorem dX7_round_20 : decode cX7_round 20 = .ok (.aload_n 0, 1) := by decide +kernel
theorem dX7_round_21 : decode cX7_round 21 = .ok (.ldc 125, 2) := by decide +kernel
theorem dX7_round_23 : decode cX7_round 23 = .ok (.invokevirtual 126, 3) := by decide +kernel
theorem dX7_round_26 : decode cX7_round 26 = .ok (.ireturn, 1) := by decide +kernel
theorem dX7_seed_0 : decode cX7_seed 0 = .ok (.aload_n 0, 1) := by decide +kernel
theorem dX7_seed_1 : decode cX7_seed 1 = .ok (.iconst 1, 1) := by decide +kernel
theorem dX7_seed_2 : decode cX7_seed 2 = .ok (.iload_n 1, 1) := by decide +kernel
theorem dX7_seed_3 : decode cX7_seed 3 = .ok (.invokevirtual 137, 3) := by decide +kernel
theorem dX7_seed_6 : decode cX7_seed 6 = .ok (.ireturn, 1) := by decide +kernel
theorem dX7_isPart_0 : decode cX7_isPart 0 = .ok (.iload_n 0, 1) := by decide +kernel
theorem dX7_isPart_1 : decode cX7_isPart 1 = .ok (.iconst 0, 1) := by decide +kernel
theorem dX7_isPart_2 : decode cX7_isPart 2 = .ok (.iconst 1, 1) := by decide +kernel
theorem dX7_isPart_3 : decode cX7_isPart 3 = .ok (.invokestatic 61, 3) := by decide +kernel
theorem dX7_isPart_6 : decode cX7_isPart 6 = .ok (.ireturn, 1) := by decide +kernel
theorem dX7_place_0 : decode cX7_place 0 = .ok (.aload_n 0, 1) := by decide +kernel
theorem dX7_place_1 : decode cX7_place 1 = .ok (.iload_n 1, 1) := by decide +kernel
theorem dX7_place_2 : decode cX7_place 2 = .ok (.invokevirtual 122, 3) := by decide +kernel
theorem dX7_place_5 : decode cX7_place 5 = .ok (.ifCond .eq 10, 3) := by decide +kernel
theorem dX7_place_8 : decode cX7_place 8 = .ok (.iload_n 2, 1) := by decide +kernel
theorem dX7_place_9 : decode cX7_place 9 = .ok (.invokestatic 228, 3) := by decide +kernel
theorem dX7_place_12 : decode cX7_place 12 = .ok (.ifCond .ne 11, 3) := by decide +kernel
theorem dX7_place_15 : decode cX7_place 15 = .ok (.aload_n 0, 1) := by decide +kernel
theorem dX7_place_16 : decode cX7_place 16 = .ok (.ldc 125, 2) := by decide +kernel
theorem dX7_place_18 : decode cX7_place 18 = .ok (.invokevirtual 126, 3) := by decide +kernel
theorem dX7_place_21 : decode cX7_place 21 = .ok (.i2l, 1) := by decide +kernel
theorem dX7_place_22 : decode cX7_place 22 = .ok (.lreturn, 1) := by decide +kernel
theorem dX7_place_23 : decode cX7_place 23 = .ok (.aload_n 0, 1) := by decide +kernel
theorem dX7_place_24 : decode cX7_place 24 = .ok (.invokevirtual 205, 3) := by decide +kernel
theorem dX7_place_27 : decode cX7_place 27 = .ok (.ifCond .eq 20, 3) := by decide +kernel
theorem dX7_place_30 : decode cX7_place 30 = .ok (.aload_n 0, 1) := by decide +kernel
theorem dX7_place_31 : decode cX7_place 31 = .ok (.getfield 38, 3) := by decide +kernel
theorem dX7_place_34 : decode cX7_place 34 = .ok (.iload_n 1, 1) := by decide +kernel
theorem dX7_place_35 : decode cX7_place 35 = .ok (.laload, 1) := by decide +kernel
theorem dX7_place_36 : decode cX7_place 36 = .ok (.aload_n 0, 1) := by decide +kernel
theorem dX7_place_37 : decode cX7_place 37 = .ok (.getfield 108, 3) := by decide +kernel
theorem dX7_place_40 : decode cX7_place 40 = .ok (.iload_n 2, 1) := by decide +kernel
theorem dX7_place_41 : decode cX7_place 41 = .ok (.invokestatic 231, 3) := by decide +kernel
theorem dX7_place_44 : decode cX7_place 44 = .ok (.goto 10, 3) := by decide +kernel
theorem dX7_place_47 : decode cX7_place 47 = .ok (.aload_n 0, 1) := by decide +kernel
theorem dX7_place_48 : decode cX7_place 48 = .ok (.ldc 141, 2) := by decide +kernel
theorem dX7_place_50 : decode cX7_place 50 = .ok (.invokevirtual 126, 3) := by decide +kernel
theorem dX7_place_53 : decode cX7_place 53 = .ok (.i2l, 1) := by decide +kernel
theorem dX7_place_54 : decode cX7_place 54 = .ok (.lreturn, 1) := by decide +kernel
theorem dX7_miss_0 : decode cX7_miss 0 = .ok (.aload_n 0, 1) := by decide +kernel
theorem dX7_miss_1 : decode cX7_miss 1 = .ok (.iload_n 1, 1) := by decide +kernel
theorem dX7_miss_2 : decode cX7_miss 2 = .ok (.invokevirtual 134, 3) := by decide +kernel
theorem dX7_miss_5 : decode cX7_miss 5 = .ok (.ifCond .eq 10, 3) := by decide +kernel
theorem dX7_miss_8 : decode cX7_miss 8 = .ok (.iload_n 2, 1) := by decide +kernel
theorem dX7_miss_9 : decode cX7_miss 9 = .ok (.invokestatic 228, 3) := by decide +kernel
theorem dX7_miss_12 : decode cX7_miss 12 = .ok (.ifCond .ne 11, 3) := by decide +kernel
theorem dX7_miss_15 : decode cX7_miss 15 = .ok (.aload_n 0, 1) := by decide +kernel
theorem dX7_miss_16 : decode cX7_miss 16 = .ok (.ldc 125, 2) := by decide +kernel
theorem dX7_miss_18 : decode cX7_miss 18 = .ok (.invokevirtual 126, 3) := by decide +kernel
theorem dX7_miss_21 : decode cX7_miss 21 = .ok (.i2l, 1) := by decide +kernel
theorem dX7_miss_22 : decode cX7_miss 22 = .ok (.lreturn, 1) := by decide +kernel
theorem dX7_miss_23 : decode cX7_miss 23 = .ok (.aload_n 0, 1) := by decide +kernel
theorem dX7_miss_24 : decode cX7_miss 24 = .ok (.invokevirtual 205, 3) := by decide +kernel
theorem dX7_miss_27 : decode cX7_miss 27 = .ok (.ifCond .eq 19, 3) := by decide +kernel
theorem dX7_miss_30 : decode cX7_miss 30 = .ok (.aload_n 0, 1) := by decide +kernel
theorem dX7_miss_31 : decode cX7_miss 31 = .ok (.iload_n 1, 1) := by decide +kernel
theorem dX7_miss_32 : decode cX7_miss 32 = .ok (.invokevirtual 112, 3) := by decide +kernel
theorem dX7_miss_35 : decode cX7_miss 35 = .ok (.aload_n 0, 1) := by decide +kernel
theorem dX7_miss_36 : decode cX7_miss 36 = .ok (.getfield 108, 3) := by decide +kernel
theorem dX7_miss_39 : decode cX7_miss 39 = .ok (.iload_n 2, 1) := by decide +kernel
theorem dX7_miss_40 : decode cX7_miss 40 = .ok (.invokestatic 231, 3) := by decide +kernel
theorem dX7_miss_43 : decode cX7_miss 43 = .ok (.goto 10, 3) := by decide +kernel
theorem dX7_miss_46 : decode cX7_miss 46 = .ok (.aload_n 0, 1) := by decide +kernel
theorem dX7_miss_47 : decode cX7_miss 47 = .ok (.ldc 141, 2) := by decide +kernel
theorem dX7_miss_49 : decode cX7_miss 49 = .ok (.invokevirtual 126, 3) := by decide +kernel
theorem dX7_miss_52 : decode cX7_miss 52 = .ok (.i2l, 1) := by decide +kernel
theorem dX7_miss_53 : decode cX7_miss 53 = .ok (.lreturn, 1) := by decide +kernel
theorem dX7_sum_0 : decode cX7_sum 0 = .ok (.iload_n 1, 1) := by decide +kernel
theorem dX7_sum_1 : decode cX7_sum 1 = .ok (.invokestatic 228, 3) := by decide +kernel
theorem dX7_sum_4 : decode cX7_sum 4 = .ok (.ifCond .ne 11, 3) := by decide +kernel
theorem dX7_sum_7 : decode cX7_sum 7 = .ok (.aload_n 0, 1) := by decide +kernel
theorem dX7_sum_8 : decode cX7_sum 8 = .ok (.ldc 125, 2) := by decide +kernel
theorem dX7_sum_10 : decode cX7_sum 10 = .ok (.invokevirtual 126, 3) := by decide +kernel
theorem dX7_sum_13 : decode cX7_sum 13 = .ok (.i2l, 1) := by decide +kernel
theorem dX7_sum_14 : decode cX7_sum 14 = .ok (.lreturn, 1) := by decide +kernel
theorem dX7_sum_15 : decode cX7_sum 15 = .ok (.aload_n 0, 1) := by decide +kernel
theorem dX7_sum_16 : decode cX7_sum 16 = .ok (.invokevirtual 205, 3) := by decide +kernel
theorem dX7_sum_19 : decode cX7_sum 19 = .ok (.ifCond .eq 23, 3) := by decide +kernel
theorem dX7_sum_22 : decode cX7_sum 22 = .ok (.aload_n 0, 1) := by decide +kernel
theorem dX7_sum_23 : decode cX7_sum 23 = .ok (.invokevirtual 235, 3) := by decide +kernel
theorem dX7_sum_26 : decode cX7_sum 26 = .ok (.aload_n 0, 1) := by decide +kernel
theorem dX7_sum_27 : decode cX7_sum 27 = .ok (.getfield 108, 3) := by decide +kernel
theorem dX7_sum_30 : decode cX7_sum 30 = .ok (.aload_n 0, 1) := by decide +kernel
theorem dX7_sum_31 : decode cX7_sum 31 = .ok (.getfield 108, 3) := by decide +kernel
theorem dX7_sum_34 : decode cX7_sum 34 = .ok (.lmul, 1) := by decide +kernel
theorem dX7_sum_35 : decode cX7_sum 35 = .ok (.iload_n 1, 1) := by decide +kernel
theorem dX7_sum_36 : decode cX7_sum 36 = .ok (.invokestatic 231, 3) := by decide +kernel
theorem dX7_sum_39 : decode cX7_sum 39 = .ok (.goto 10, 3) := by decide +kernel
theorem dX7_sum_42 : decode cX7_sum 42 = .ok (.aload_n 0, 1) := by decide +kernel
theorem dX7_sum_43 : decode cX7_sum 43 = .ok (.ldc 141, 2) := by decide +kernel
theorem dX7_sum_45 : decode cX7_sum 45 = .ok (.invokevirtual 126, 3) := by decide +kernel
theorem dX7_sum_48 : decode cX7_sum 48 = .ok (.i2l, 1) := by decide +kernel
theorem dX7_sum_49 : decode cX7_sum 49 = .ok (.lreturn, 1) := by decide +kernel
theorem dX7_doubted_0 : decode cX7_doubted 0 = .ok (.aload_n 0, 1) := by decide +kernel
theorem dX7_doubted_1 : decode cX7_doubted 1 = .ok (.invokevirtual 205, 3) := by decide +kernel
theorem dX7_doubted_4 : decode cX7_doubted 4 = .ok (.ifCond .eq 10, 3) := by decide +kernel
theorem dX7_doubted_7 : decode cX7_doubted 7 = .ok (.aload_n 0, 1) := by decide +kernel
theorem dX7_doubted_8 : decode cX7_doubted 8 = .ok (.invokevirtual 209, 3) := by decide +kernel
theorem dX7_doubted_11 : decode cX7_doubted 11 = .ok (.goto 9, 3) := by decide +kernel
theorem dX7_doubted_14 : decode cX7_doubted 14 = .ok (.aload_n 0, 1) := by decide +kernel
theorem dX7_doubted_15 : decode cX7_doubted 15 = .ok (.ldc 141, 2) := by decide +kernel
theorem dX7_doubted_17 : decode cX7_doubted 17 = .ok (.invokevirtual 126, 3) := by decide +kernel
theorem dX7_doubted_20 : decode cX7_doubted 20 = .ok (.ireturn, 1) := by decide +kernel
theorem dX7_needed_0 : decode cX7_needed 0 = .ok (.aload_n 0, 1) := by decide +kernel
theorem dX7_needed_1 : decode cX7_needed 1 = .ok (.invokevirtual 96, 3) := by decide +kernel
theorem dX7_needed_4 : decode cX7_needed 4 = .ok (.istore_n 1, 1) := by decide +kernel
theorem dX7_needed_5 : decode cX7_needed 5 = .ok (.aload_n 0, 1) := by decide +kernel
theorem dX7_needed_6 : decode cX7_needed 6 = .ok (.iload_n 1, 1) := by decide +kernel
theorem dX7_needed_7 : decode cX7_needed 7 = .ok (.invokevirtual 100, 3) := by decide +kernel
theorem dX7_needed_10 : decode cX7_needed 10 = .ok (.ifCond .ne 10, 3) := by decide +kernel
theorem dX7_needed_13 : decode cX7_needed 13 = .ok (.aload_n 0, 1) := by decide +kernel
theorem dX7_needed_14 : decode cX7_needed 14 = .ok (.ldc 141, 2) := by decide +kernel
theorem dX7_needed_16 : decode cX7_needed 16 = .ok (.invokevirtual 126, 3) := by decide +kernel
theorem dX7_needed_19 : decode cX7_needed 19 = .ok (.ireturn, 1) := by decide +kernel
theorem dX7_needed_20 : decode cX7_needed 20 = .ok (.iconst 0, 1) := by decide +kernel
theorem dX7_needed_21 : decode cX7_needed 21 = .ok (.istore_n 2, 1) := by decide +kernel
theorem dX7_needed_22 : decode cX7_needed 22 = .ok (.iconst 0, 1) := by decide +kernel
theorem dX7_needed_23 : decode cX7_needed 23 = .ok (.istore_n 3, 1) := by decide +kernel
theorem dX7_needed_24 : decode cX7_needed 24 = .ok (.iload_n 3, 1) := by decide +kernel
theorem dX7_needed_25 : decode cX7_needed 25 = .ok (.aload_n 0, 1) := by decide +kernel
theorem dX7_needed_26 : decode cX7_needed 26 = .ok (.getfield 9, 3) := by decide +kernel
theorem dX7_needed_29 : decode cX7_needed 29 = .ok (.iconst 2, 1) := by decide +kernel
theorem dX7_needed_30 : decode cX7_needed 30 = .ok (.iaload, 1) := by decide +kernel
theorem dX7_needed_31 : decode cX7_needed 31 = .ok (.if_icmp .ge 42, 3) := by decide +kernel
theorem dX7_needed_34 : decode cX7_needed 34 = .ok (.iload_n 2, 1) := by decide +kernel
theorem dX7_needed_35 : decode cX7_needed 35 = .ok (.iload_n 1, 1) := by decide +kernel
theorem dX7_needed_36 : decode cX7_needed 36 = .ok (.iload_n 3, 1) := by decide +kernel
theorem dX7_needed_37 : decode cX7_needed 37 = .ok (.ishr, 1) := by decide +kernel
theorem dX7_needed_38 : decode cX7_needed 38 = .ok (.iconst 1, 1) := by decide +kernel
theorem dX7_needed_39 : decode cX7_needed 39 = .ok (.iand, 1) := by decide +kernel
theorem dX7_needed_40 : decode cX7_needed 40 = .ok (.iconst 1, 1) := by decide +kernel
theorem dX7_needed_41 : decode cX7_needed 41 = .ok (.if_icmp .ne 23, 3) := by decide +kernel
theorem dX7_needed_44 : decode cX7_needed 44 = .ok (.aload_n 0, 1) := by decide +kernel
theorem dX7_needed_45 : decode cX7_needed 45 = .ok (.iload_n 1, 1) := by decide +kernel
theorem dX7_needed_46 : decode cX7_needed 46 = .ok (.iconst 1, 1) := by decide +kernel
theorem dX7_needed_47 : decode cX7_needed 47 = .ok (.iload_n 3, 1) := by decide +kernel
theorem dX7_needed_48 : decode cX7_needed 48 = .ok (.ishl, 1) := by decide +kernel
theorem dX7_needed_49 : decode cX7_needed 49 = .ok (.iconst (-1), 1) := by decide +kernel
theorem dX7_needed_50 : decode cX7_needed 50 = .ok (.ixor, 1) := by decide +kernel
theorem dX7_needed_51 : decode cX7_needed 51 = .ok (.iand, 1) := by decide +kernel
theorem dX7_needed_52 : decode cX7_needed 52 = .ok (.invokevirtual 100, 3) := by decide +kernel
theorem dX7_needed_55 : decode cX7_needed 55 = .ok (.ifCond .ne 9, 3) := by decide +kernel
theorem dX7_needed_58 : decode cX7_needed 58 = .ok (.iconst 1, 1) := by decide +kernel
theorem dX7_needed_59 : decode cX7_needed 59 = .ok (.iload_n 3, 1) := by decide +kernel
theorem dX7_needed_60 : decode cX7_needed 60 = .ok (.ishl, 1) := by decide +kernel
theorem dX7_needed_61 : decode cX7_needed 61 = .ok (.goto 4, 3) := by decide +kernel
theorem dX7_needed_64 : decode cX7_needed 64 = .ok (.iconst 0, 1) := by decide +kernel
theorem dX7_needed_65 : decode cX7_needed 65 = .ok (.ior, 1) := by decide +kernel
theorem dX7_needed_66 : decode cX7_needed 66 = .ok (.istore_n 2, 1) := by decide +kernel
theorem dX7_needed_67 : decode cX7_needed 67 = .ok (.iinc 3 1, 3) := by decide +kernel
theorem dX7_needed_70 : decode cX7_needed 70 = .ok (.goto (-46), 3) := by decide +kernel
theorem dX7_needed_73 : decode cX7_needed 73 = .ok (.iload_n 2, 1) := by decide +kernel
theorem dX7_needed_74 : decode cX7_needed 74 = .ok (.ireturn, 1) := by decide +kernel
theorem dX7_weightOf_0 : decode cX7_weightOf 0 = .ok (.iconst 0, 1) := by decide +kernel
theorem dX7_weightOf_1 : decode cX7_weightOf 1 = .ok (.istore_n 2, 1) := by decide +kernel
theorem dX7_weightOf_2 : decode cX7_weightOf 2 = .ok (.iconst 0, 1) := by decide +kernel
theorem dX7_weightOf_3 : decode cX7_weightOf 3 = .ok (.istore_n 3, 1) := by decide +kernel
theorem dX7_weightOf_4 : decode cX7_weightOf 4 = .ok (.iload_n 3, 1) := by decide +kernel
theorem dX7_weightOf_5 : decode cX7_weightOf 5 = .ok (.aload_n 0, 1) := by decide +kernel
theorem dX7_weightOf_6 : decode cX7_weightOf 6 = .ok (.getfield 9, 3) := by decide +kernel
theorem dX7_weightOf_9 : decode cX7_weightOf 9 = .ok (.iconst 2, 1) := by decide +kernel
theorem dX7_weightOf_10 : decode cX7_weightOf 10 = .ok (.iaload, 1) := by decide +kernel
theorem dX7_weightOf_11 : decode cX7_weightOf 11 = .ok (.if_icmp .ge 30, 3) := by decide +kernel
theorem dX7_weightOf_14 : decode cX7_weightOf 14 = .ok (.iload_n 2, 1) := by decide +kernel
theorem dX7_weightOf_15 : decode cX7_weightOf 15 = .ok (.iload_n 1, 1) := by decide +kernel
theorem dX7_weightOf_16 : decode cX7_weightOf 16 = .ok (.iload_n 3, 1) := by decide +kernel
theorem dX7_weightOf_17 : decode cX7_weightOf 17 = .ok (.ishr, 1) := by decide +kernel
theorem dX7_weightOf_18 : decode cX7_weightOf 18 = .ok (.iconst 1, 1) := by decide +kernel
theorem dX7_weightOf_19 : decode cX7_weightOf 19 = .ok (.iand, 1) := by decide +kernel
theorem dX7_weightOf_20 : decode cX7_weightOf 20 = .ok (.iconst 1, 1) := by decide +kernel
theorem dX7_weightOf_21 : decode cX7_weightOf 21 = .ok (.if_icmp .ne 11, 3) := by decide +kernel
theorem dX7_weightOf_24 : decode cX7_weightOf 24 = .ok (.aload_n 0, 1) := by decide +kernel
theorem dX7_weightOf_25 : decode cX7_weightOf 25 = .ok (.iload_n 3, 1) := by decide +kernel
theorem dX7_weightOf_26 : decode cX7_weightOf 26 = .ok (.invokevirtual 90, 3) := by decide +kernel
theorem dX7_weightOf_29 : decode cX7_weightOf 29 = .ok (.goto 4, 3) := by decide +kernel
theorem dX7_weightOf_32 : decode cX7_weightOf 32 = .ok (.iconst 0, 1) := by decide +kernel
theorem dX7_weightOf_33 : decode cX7_weightOf 33 = .ok (.iadd, 1) := by decide +kernel
theorem dX7_weightOf_34 : decode cX7_weightOf 34 = .ok (.istore_n 2, 1) := by decide +kernel
theorem dX7_weightOf_35 : decode cX7_weightOf 35 = .ok (.iinc 3 1, 3) := by decide +kernel
theorem dX7_weightOf_38 : decode cX7_weightOf 38 = .ok (.goto (-34), 3) := by decide +kernel
theorem dX7_weightOf_41 : decode cX7_weightOf 41 = .ok (.iload_n 2, 1) := by decide +kernel
theorem dX7_weightOf_42 : decode cX7_weightOf 42 = .ok (.ireturn, 1) := by decide +kernel
theorem dX7_spine_0 : decode cX7_spine 0 = .ok (.aload_n 0, 1) := by decide +kernel
theorem dX7_spine_1 : decode cX7_spine 1 = .ok (.invokevirtual 96, 3) := by decide +kernel
theorem dX7_spine_4 : decode cX7_spine 4 = .ok (.istore_n 1, 1) := by decide +kernel
theorem dX7_spine_5 : decode cX7_spine 5 = .ok (.aload_n 0, 1) := by decide +kernel
theorem dX7_spine_6 : decode cX7_spine 6 = .ok (.iload_n 1, 1) := by decide +kernel
theorem dX7_spine_7 : decode cX7_spine 7 = .ok (.invokevirtual 100, 3) := by decide +kernel
theorem dX7_spine_10 : decode cX7_spine 10 = .ok (.ifCond .ne 10, 3) := by decide +kernel
theorem dX7_spine_13 : decode cX7_spine 13 = .ok (.aload_n 0, 1) := by decide +kernel
theorem dX7_spine_14 : decode cX7_spine 14 = .ok (.ldc 141, 2) := by decide +kernel
theorem dX7_spine_16 : decode cX7_spine 16 = .ok (.invokevirtual 126, 3) := by decide +kernel
theorem dX7_spine_19 : decode cX7_spine 19 = .ok (.ireturn, 1) := by decide +kernel
theorem dX7_spine_20 : decode cX7_spine 20 = .ok (.iload_n 1, 1) := by decide +kernel
theorem dX7_spine_21 : decode cX7_spine 21 = .ok (.istore_n 2, 1) := by decide +kernel
theorem dX7_spine_22 : decode cX7_spine 22 = .ok (.iload_n 1, 1) := by decide +kernel
theorem dX7_spine_23 : decode cX7_spine 23 = .ok (.istore_n 3, 1) := by decide +kernel
theorem dX7_spine_24 : decode cX7_spine 24 = .ok (.iload_n 3, 1) := by decide +kernel
theorem dX7_spine_25 : decode cX7_spine 25 = .ok (.ifCond .lt 78, 3) := by decide +kernel
theorem dX7_spine_28 : decode cX7_spine 28 = .ok (.iload_n 3, 1) := by decide +kernel
theorem dX7_spine_29 : decode cX7_spine 29 = .ok (.iload_n 1, 1) := by decide +kernel
theorem dX7_spine_30 : decode cX7_spine 30 = .ok (.iconst (-1), 1) := by decide +kernel
theorem dX7_spine_31 : decode cX7_spine 31 = .ok (.ixor, 1) := by decide +kernel
theorem dX7_spine_32 : decode cX7_spine 32 = .ok (.iand, 1) := by decide +kernel
theorem dX7_spine_33 : decode cX7_spine 33 = .ok (.ifCond .ne 26, 3) := by decide +kernel
theorem dX7_spine_36 : decode cX7_spine 36 = .ok (.iload_n 3, 1) := by decide +kernel
theorem dX7_spine_37 : decode cX7_spine 37 = .ok (.invokestatic 218, 3) := by decide +kernel
theorem dX7_spine_40 : decode cX7_spine 40 = .ok (.iload_n 2, 1) := by decide +kernel
theorem dX7_spine_41 : decode cX7_spine 41 = .ok (.invokestatic 218, 3) := by decide +kernel
theorem dX7_spine_44 : decode cX7_spine 44 = .ok (.if_icmp .gt 15, 3) := by decide +kernel
theorem dX7_spine_47 : decode cX7_spine 47 = .ok (.aload_n 0, 1) := by decide +kernel
theorem dX7_spine_48 : decode cX7_spine 48 = .ok (.iload_n 3, 1) := by decide +kernel
theorem dX7_spine_49 : decode cX7_spine 49 = .ok (.invokevirtual 100, 3) := by decide +kernel
theorem dX7_spine_52 : decode cX7_spine 52 = .ok (.ifCond .eq 7, 3) := by decide +kernel
theorem dX7_spine_55 : decode cX7_spine 55 = .ok (.iconst 1, 1) := by decide +kernel
theorem dX7_spine_56 : decode cX7_spine 56 = .ok (.goto 4, 3) := by decide +kernel
theorem dX7_spine_59 : decode cX7_spine 59 = .ok (.iconst 0, 1) := by decide +kernel
theorem dX7_spine_60 : decode cX7_spine 60 = .ok (.istore 4, 2) := by decide +kernel
theorem dX7_spine_62 : decode cX7_spine 62 = .ok (.iload 4, 2) := by decide +kernel
theorem dX7_spine_64 : decode cX7_spine 64 = .ok (.ifCond .eq 31, 3) := by decide +kernel
theorem dX7_spine_67 : decode cX7_spine 67 = .ok (.iload_n 3, 1) := by decide +kernel
theorem dX7_spine_68 : decode cX7_spine 68 = .ok (.invokestatic 218, 3) := by decide +kernel
theorem dX7_spine_71 : decode cX7_spine 71 = .ok (.iload_n 2, 1) := by decide +kernel
theorem dX7_spine_72 : decode cX7_spine 72 = .ok (.invokestatic 218, 3) := by decide +kernel
theorem dX7_spine_75 : decode cX7_spine 75 = .ok (.if_icmp .lt 16, 3) := by decide +kernel
theorem dX7_spine_78 : decode cX7_spine 78 = .ok (.aload_n 0, 1) := by decide +kernel
theorem dX7_spine_79 : decode cX7_spine 79 = .ok (.iload_n 3, 1) := by decide +kernel
theorem dX7_spine_80 : decode cX7_spine 80 = .ok (.invokevirtual 239, 3) := by decide +kernel
theorem dX7_spine_83 : decode cX7_spine 83 = .ok (.aload_n 0, 1) := by decide +kernel
theorem dX7_spine_84 : decode cX7_spine 84 = .ok (.iload_n 2, 1) := by decide +kernel
theorem dX7_spine_85 : decode cX7_spine 85 = .ok (.invokevirtual 239, 3) := by decide +kernel
theorem dX7_spine_88 : decode cX7_spine 88 = .ok (.if_icmp .lt 7, 3) := by decide +kernel
theorem dX7_spine_91 : decode cX7_spine 91 = .ok (.iload_n 3, 1) := by decide +kernel
theorem dX7_spine_92 : decode cX7_spine 92 = .ok (.goto 4, 3) := by decide +kernel
theorem dX7_spine_95 : decode cX7_spine 95 = .ok (.iload_n 2, 1) := by decide +kernel
theorem dX7_spine_96 : decode cX7_spine 96 = .ok (.istore_n 2, 1) := by decide +kernel
theorem dX7_spine_97 : decode cX7_spine 97 = .ok (.iinc 3 (-1), 3) := by decide +kernel
theorem dX7_spine_100 : decode cX7_spine 100 = .ok (.goto (-76), 3) := by decide +kernel
theorem dX7_spine_103 : decode cX7_spine 103 = .ok (.iload_n 2, 1) := by decide +kernel
theorem dX7_spine_104 : decode cX7_spine 104 = .ok (.ireturn, 1) := by decide +kernel
theorem dX7_then_0 : decode cX7_then 0 = .ok (.iload_n 1, 1) := by decide +kernel
theorem dX7_then_1 : decode cX7_then 1 = .ok (.iconst 0, 1) := by decide +kernel
theorem dX7_then_2 : decode cX7_then 2 = .ok (.bipush 60, 2) := by decide +kernel
theorem dX7_then_4 : decode cX7_then 4 = .ok (.invokestatic 61, 3) := by decide +kernel
theorem dX7_then_7 : decode cX7_then 7 = .ok (.ifCond .eq 12, 3) := by decide +kernel
theorem dX7_then_10 : decode cX7_then 10 = .ok (.iload_n 2, 1) := by decide +kernel
theorem dX7_then_11 : decode cX7_then 11 = .ok (.iconst 0, 1) := by decide +kernel
theorem dX7_then_12 : decode cX7_then 12 = .ok (.iconst 2, 1) := by decide +kernel
theorem dX7_then_13 : decode cX7_then 13 = .ok (.invokestatic 61, 3) := by decide +kernel
theorem dX7_then_16 : decode cX7_then 16 = .ok (.ifCond .ne 10, 3) := by decide +kernel
theorem dX7_then_19 : decode cX7_then 19 = .ok (.aload_n 0, 1) := by decide +kernel
theorem dX7_then_20 : decode cX7_then 20 = .ok (.ldc 125, 2) := by decide +kernel
theorem dX7_then_22 : decode cX7_then 22 = .ok (.invokevirtual 126, 3) := by decide +kernel
theorem dX7_then_25 : decode cX7_then 25 = .ok (.ireturn, 1) := by decide +kernel
theorem dX7_then_26 : decode cX7_then 26 = .ok (.aload_n 0, 1) := by decide +kernel
theorem dX7_then_27 : decode cX7_then 27 = .ok (.invokevirtual 242, 3) := by decide +kernel
theorem dX7_then_30 : decode cX7_then 30 = .ok (.aload_n 0, 1) := by decide +kernel
theorem dX7_then_31 : decode cX7_then 31 = .ok (.iload_n 1, 1) := by decide +kernel
theorem dX7_then_32 : decode cX7_then 32 = .ok (.invokevirtual 215, 3) := by decide +kernel
theorem dX7_then_35 : decode cX7_then 35 = .ok (.iload_n 2, 1) := by decide +kernel
theorem dX7_then_36 : decode cX7_then 36 = .ok (.iconst 2, 1) := by decide +kernel
theorem dX7_then_37 : decode cX7_then 37 = .ok (.if_icmp .ne 12, 3) := by decide +kernel
theorem dX7_then_40 : decode cX7_then 40 = .ok (.aload_n 0, 1) := by decide +kernel
theorem dX7_then_41 : decode cX7_then 41 = .ok (.getfield 9, 3) := by decide +kernel
theorem dX7_then_44 : decode cX7_then 44 = .ok (.iconst 5, 1) := by decide +kernel
theorem dX7_then_45 : decode cX7_then 45 = .ok (.iaload, 1) := by decide +kernel
theorem dX7_then_46 : decode cX7_then 46 = .ok (.goto 22, 3) := by decide +kernel
theorem dX7_then_49 : decode cX7_then 49 = .ok (.iload_n 2, 1) := by decide +kernel
theorem dX7_then_50 : decode cX7_then 50 = .ok (.iconst 1, 1) := by decide +kernel
theorem dX7_then_51 : decode cX7_then 51 = .ok (.if_icmp .ne 10, 3) := by decide +kernel
theorem dX7_then_54 : decode cX7_then 54 = .ok (.aload_n 0, 1) := by decide +kernel
theorem dX7_then_55 : decode cX7_then 55 = .ok (.invokevirtual 96, 3) := by decide +kernel
theorem dX7_then_58 : decode cX7_then 58 = .ok (.goto 10, 3) := by decide +kernel
theorem dX7_then_61 : decode cX7_then 61 = .ok (.aload_n 0, 1) := by decide +kernel
theorem dX7_then_62 : decode cX7_then 62 = .ok (.invokevirtual 96, 3) := by decide +kernel
theorem dX7_then_65 : decode cX7_then 65 = .ok (.invokestatic 218, 3) := by decide +kernel
theorem dX7_then_68 : decode cX7_then 68 = .ok (.istore_n 3, 1) := by decide +kernel
theorem dX7_then_69 : decode cX7_then 69 = .ok (.aload_n 0, 1) := by decide +kernel
theorem dX7_then_70 : decode cX7_then 70 = .ok (.invokevirtual 245, 3) := by decide +kernel
theorem dX7_then_73 : decode cX7_then 73 = .ok (.iload_n 3, 1) := by decide +kernel
theorem dX7_then_74 : decode cX7_then 74 = .ok (.ireturn, 1) := by decide +kernel
theorem dX7_soonest_0 : decode cX7_soonest 0 = .ok (.aload_n 0, 1) := by decide +kernel
theorem dX7_soonest_1 : decode cX7_soonest 1 = .ok (.iload_n 1, 1) := by decide +kernel
theorem dX7_soonest_2 : decode cX7_soonest 2 = .ok (.invokevirtual 134, 3) := by decide +kernel
theorem dX7_soonest_5 : decode cX7_soonest 5 = .ok (.ifCond .ne 10, 3) := by decide +kernel
theorem dX7_soonest_8 : decode cX7_soonest 8 = .ok (.aload_n 0, 1) := by decide +kernel
theorem dX7_soonest_9 : decode cX7_soonest 9 = .ok (.ldc 125, 2) := by decide +kernel
theorem dX7_soonest_11 : decode cX7_soonest 11 = .ok (.invokevirtual 126, 3) := by decide +kernel
theorem dX7_soonest_14 : decode cX7_soonest 14 = .ok (.ireturn, 1) := by decide +kernel
theorem dX7_soonest_15 : decode cX7_soonest 15 = .ok (.aload_n 0, 1) := by decide +kernel
theorem dX7_soonest_16 : decode cX7_soonest 16 = .ok (.invokevirtual 242, 3) := by decide +kernel
theorem dX7_soonest_19 : decode cX7_soonest 19 = .ok (.iconst 0, 1) := by decide +kernel
theorem dX7_soonest_20 : decode cX7_soonest 20 = .ok (.istore_n 2, 1) := by decide +kernel
theorem dX7_soonest_21 : decode cX7_soonest 21 = .ok (.iload_n 2, 1) := by decide +kernel
theorem dX7_soonest_22 : decode cX7_soonest 22 = .ok (.bipush 60, 2) := by decide +kernel
theorem dX7_soonest_24 : decode cX7_soonest 24 = .ok (.if_icmp .gt 23, 3) := by decide +kernel
theorem dX7_soonest_27 : decode cX7_soonest 27 = .ok (.aload_n 0, 1) := by decide +kernel
theorem dX7_soonest_28 : decode cX7_soonest 28 = .ok (.iload_n 1, 1) := by decide +kernel
theorem dX7_soonest_29 : decode cX7_soonest 29 = .ok (.iconst 5, 1) := by decide +kernel
theorem dX7_soonest_30 : decode cX7_soonest 30 = .ok (.invokevirtual 65, 3) := by decide +kernel
theorem dX7_soonest_33 : decode cX7_soonest 33 = .ok (.iconst 1, 1) := by decide +kernel
theorem dX7_soonest_34 : decode cX7_soonest 34 = .ok (.if_icmp .ne 13, 3) := by decide +kernel
theorem dX7_soonest_37 : decode cX7_soonest 37 = .ok (.aload_n 0, 1) := by decide +kernel
theorem dX7_soonest_38 : decode cX7_soonest 38 = .ok (.invokevirtual 212, 3) := by decide +kernel
theorem dX7_soonest_41 : decode cX7_soonest 41 = .ok (.iinc 2 1, 3) := by decide +kernel
theorem dX7_soonest_44 : decode cX7_soonest 44 = .ok (.goto (-23), 3) := by decide +kernel
theorem dX7_soonest_47 : decode cX7_soonest 47 = .ok (.aload_n 0, 1) := by decide +kernel
theorem dX7_soonest_48 : decode cX7_soonest 48 = .ok (.invokevirtual 245, 3) := by decide +kernel
theorem dX7_soonest_51 : decode cX7_soonest 51 = .ok (.iload_n 2, 1) := by decide +kernel
theorem dX7_soonest_52 : decode cX7_soonest 52 = .ok (.bipush 60, 2) := by decide +kernel
theorem dX7_soonest_54 : decode cX7_soonest 54 = .ok (.if_icmp .le 12, 3) := by decide +kernel
theorem dX7_soonest_57 : decode cX7_soonest 57 = .ok (.aload_n 0, 1) := by decide +kernel
theorem dX7_soonest_58 : decode cX7_soonest 58 = .ok (.ldc 248, 2) := by decide +kernel
theorem dX7_soonest_60 : decode cX7_soonest 60 = .ok (.invokevirtual 126, 3) := by decide +kernel
theorem dX7_soonest_63 : decode cX7_soonest 63 = .ok (.goto 4, 3) := by decide +kernel
theorem dX7_soonest_66 : decode cX7_soonest 66 = .ok (.iload_n 2, 1) := by decide +kernel
theorem dX7_soonest_67 : decode cX7_soonest 67 = .ok (.ireturn, 1) := by decide +kernel
theorem dX7_doStay_0 : decode cX7_doStay 0 = .ok (.aload_n 0, 1) := by decide +kernel
theorem dX7_doStay_1 : decode cX7_doStay 1 = .ok (.invokevirtual 96, 3) := by decide +kernel
theorem dX7_doStay_4 : decode cX7_doStay 4 = .ok (.istore_n 2, 1) := by decide +kernel
theorem dX7_doStay_5 : decode cX7_doStay 5 = .ok (.iconst 1, 1) := by decide +kernel
theorem dX7_doStay_6 : decode cX7_doStay 6 = .ok (.istore_n 3, 1) := by decide +kernel
theorem dX7_doStay_7 : decode cX7_doStay 7 = .ok (.iconst 0, 1) := by decide +kernel
theorem dX7_doStay_8 : decode cX7_doStay 8 = .ok (.istore 4, 2) := by decide +kernel
theorem dX7_doStay_10 : decode cX7_doStay 10 = .ok (.iload 4, 2) := by decide +kernel
theorem dX7_doStay_12 : decode cX7_doStay 12 = .ok (.iload_n 1, 1) := by decide +kernel
theorem dX7_doStay_13 : decode cX7_doStay 13 = .ok (.if_icmp .ge 34, 3) := by decide +kernel
theorem dX7_doStay_16 : decode cX7_doStay 16 = .ok (.iload_n 3, 1) := by decide +kernel
theorem dX7_doStay_17 : decode cX7_doStay 17 = .ok (.ifCond .eq 30, 3) := by decide +kernel
theorem dX7_doStay_20 : decode cX7_doStay 20 = .ok (.aload_n 0, 1) := by decide +kernel
theorem dX7_doStay_21 : decode cX7_doStay 21 = .ok (.invokevirtual 212, 3) := by decide +kernel
theorem dX7_doStay_24 : decode cX7_doStay 24 = .ok (.iload_n 2, 1) := by decide +kernel
theorem dX7_doStay_25 : decode cX7_doStay 25 = .ok (.aload_n 0, 1) := by decide +kernel
theorem dX7_doStay_26 : decode cX7_doStay 26 = .ok (.invokevirtual 96, 3) := by decide +kernel
theorem dX7_doStay_29 : decode cX7_doStay 29 = .ok (.iconst (-1), 1) := by decide +kernel
theorem dX7_doStay_30 : decode cX7_doStay 30 = .ok (.ixor, 1) := by decide +kernel
theorem dX7_doStay_31 : decode cX7_doStay 31 = .ok (.iand, 1) := by decide +kernel
theorem dX7_doStay_32 : decode cX7_doStay 32 = .ok (.ifCond .ne 7, 3) := by decide +kernel
theorem dX7_doStay_35 : decode cX7_doStay 35 = .ok (.iconst 1, 1) := by decide +kernel
theorem dX7_doStay_36 : decode cX7_doStay 36 = .ok (.goto 4, 3) := by decide +kernel
theorem dX7_doStay_39 : decode cX7_doStay 39 = .ok (.iconst 0, 1) := by decide +kernel
theorem dX7_doStay_40 : decode cX7_doStay 40 = .ok (.istore_n 3, 1) := by decide +kernel
theorem dX7_doStay_41 : decode cX7_doStay 41 = .ok (.iinc 4 1, 3) := by decide +kernel
theorem dX7_doStay_44 : decode cX7_doStay 44 = .ok (.goto (-34), 3) := by decide +kernel
theorem dX7_doStay_47 : decode cX7_doStay 47 = .ok (.aload_n 0, 1) := by decide +kernel
theorem dX7_doStay_48 : decode cX7_doStay 48 = .ok (.invokevirtual 245, 3) := by decide +kernel
theorem dX7_doStay_51 : decode cX7_doStay 51 = .ok (.iload_n 3, 1) := by decide +kernel
theorem dX7_doStay_52 : decode cX7_doStay 52 = .ok (.ireturn, 1) := by decide +kernel
theorem dX7_limitFor_0 : decode cX7_limitFor 0 = .ok (.iload_n 1, 1) := by decide +kernel
theorem dX7_limitFor_1 : decode cX7_limitFor 1 = .ok (.iconst 0, 1) := by decide +kernel
theorem dX7_limitFor_2 : decode cX7_limitFor 2 = .ok (.bipush 40, 2) := by decide +kernel
theorem dX7_limitFor_4 : decode cX7_limitFor 4 = .ok (.invokestatic 61, 3) := by decide +kernel
theorem dX7_limitFor_7 : decode cX7_limitFor 7 = .ok (.ifCond .ne 10, 3) := by decide +kernel
theorem dX7_limitFor_10 : decode cX7_limitFor 10 = .ok (.aload_n 0, 1) := by decide +kernel
theorem dX7_limitFor_11 : decode cX7_limitFor 11 = .ok (.ldc 125, 2) := by decide +kernel
theorem dX7_limitFor_13 : decode cX7_limitFor 13 = .ok (.invokevirtual 126, 3) := by decide +kernel
theorem dX7_limitFor_16 : decode cX7_limitFor 16 = .ok (.ireturn, 1) := by decide +kernel
theorem dX7_limitFor_17 : decode cX7_limitFor 17 = .ok (.aload_n 0, 1) := by decide +kernel
theorem dX7_limitFor_18 : decode cX7_limitFor 18 = .ok (.invokevirtual 242, 3) := by decide +kernel
theorem dX7_limitFor_21 : decode cX7_limitFor 21 = .ok (.iconst 0, 1) := by decide +kernel
theorem dX7_limitFor_22 : decode cX7_limitFor 22 = .ok (.istore_n 2, 1) := by decide +kernel
theorem dX7_limitFor_23 : decode cX7_limitFor 23 = .ok (.iload_n 2, 1) := by decide +kernel
theorem dX7_limitFor_24 : decode cX7_limitFor 24 = .ok (.bipush 99, 2) := by decide +kernel
theorem dX7_limitFor_26 : decode cX7_limitFor 26 = .ok (.if_icmp .gt 26, 3) := by decide +kernel
theorem dX7_limitFor_29 : decode cX7_limitFor 29 = .ok (.aload_n 0, 1) := by decide +kernel
theorem dX7_limitFor_30 : decode cX7_limitFor 30 = .ok (.getfield 9, 3) := by decide +kernel
theorem dX7_limitFor_33 : decode cX7_limitFor 33 = .ok (.iconst 4, 1) := by decide +kernel
theorem dX7_limitFor_34 : decode cX7_limitFor 34 = .ok (.iload_n 2, 1) := by decide +kernel
theorem dX7_limitFor_35 : decode cX7_limitFor 35 = .ok (.iastore, 1) := by decide +kernel
theorem dX7_limitFor_36 : decode cX7_limitFor 36 = .ok (.aload_n 0, 1) := by decide +kernel
theorem dX7_limitFor_37 : decode cX7_limitFor 37 = .ok (.iload_n 1, 1) := by decide +kernel
theorem dX7_limitFor_38 : decode cX7_limitFor 38 = .ok (.invokevirtual 249, 3) := by decide +kernel
theorem dX7_limitFor_41 : decode cX7_limitFor 41 = .ok (.ifCond .eq 5, 3) := by decide +kernel
theorem dX7_limitFor_44 : decode cX7_limitFor 44 = .ok (.iload_n 2, 1) := by decide +kernel
theorem dX7_limitFor_45 : decode cX7_limitFor 45 = .ok (.ireturn, 1) := by decide +kernel
theorem dX7_limitFor_46 : decode cX7_limitFor 46 = .ok (.iinc 2 1, 3) := by decide +kernel
theorem dX7_limitFor_49 : decode cX7_limitFor 49 = .ok (.goto (-26), 3) := by decide +kernel
theorem dX7_limitFor_52 : decode cX7_limitFor 52 = .ok (.aload_n 0, 1) := by decide +kernel
theorem dX7_limitFor_53 : decode cX7_limitFor 53 = .ok (.ldc 248, 2) := by decide +kernel
theorem dX7_limitFor_55 : decode cX7_limitFor 55 = .ok (.invokevirtual 126, 3) := by decide +kernel
theorem dX7_limitFor_58 : decode cX7_limitFor 58 = .ok (.ireturn, 1) := by decide +kernel
theorem dX7_toldFor_0 : decode cX7_toldFor 0 = .ok (.aload_n 0, 1) := by decide +kernel
theorem dX7_toldFor_1 : decode cX7_toldFor 1 = .ok (.iload_n 1, 1) := by decide +kernel
theorem dX7_toldFor_2 : decode cX7_toldFor 2 = .ok (.invokevirtual 134, 3) := by decide +kernel
theorem dX7_toldFor_5 : decode cX7_toldFor 5 = .ok (.ifCond .ne 10, 3) := by decide +kernel
theorem dX7_toldFor_8 : decode cX7_toldFor 8 = .ok (.aload_n 0, 1) := by decide +kernel
theorem dX7_toldFor_9 : decode cX7_toldFor 9 = .ok (.ldc 125, 2) := by decide +kernel
theorem dX7_toldFor_11 : decode cX7_toldFor 11 = .ok (.invokevirtual 126, 3) := by decide +kernel
theorem dX7_toldFor_14 : decode cX7_toldFor 14 = .ok (.ireturn, 1) := by decide +kernel
theorem dX7_toldFor_15 : decode cX7_toldFor 15 = .ok (.aload_n 0, 1) := by decide +kernel
theorem dX7_toldFor_16 : decode cX7_toldFor 16 = .ok (.invokevirtual 205, 3) := by decide +kernel
theorem dX7_toldFor_19 : decode cX7_toldFor 19 = .ok (.ifCond .ne 10, 3) := by decide +kernel
theorem dX7_toldFor_22 : decode cX7_toldFor 22 = .ok (.aload_n 0, 1) := by decide +kernel
theorem dX7_toldFor_23 : decode cX7_toldFor 23 = .ok (.ldc 141, 2) := by decide +kernel
theorem dX7_toldFor_25 : decode cX7_toldFor 25 = .ok (.invokevirtual 126, 3) := by decide +kernel
theorem dX7_toldFor_28 : decode cX7_toldFor 28 = .ok (.ireturn, 1) := by decide +kernel
theorem dX7_toldFor_29 : decode cX7_toldFor 29 = .ok (.aload_n 0, 1) := by decide +kernel
theorem dX7_toldFor_30 : decode cX7_toldFor 30 = .ok (.invokevirtual 242, 3) := by decide +kernel
theorem dX7_toldFor_33 : decode cX7_toldFor 33 = .ok (.iconst 0, 1) := by decide +kernel
theorem dX7_toldFor_34 : decode cX7_toldFor 34 = .ok (.istore_n 2, 1) := by decide +kernel
theorem dX7_toldFor_35 : decode cX7_toldFor 35 = .ok (.ldc2_w 252, 3) := by decide +kernel
theorem dX7_toldFor_38 : decode cX7_toldFor 38 = .ok (.lstore_n 3, 1) := by decide +kernel
theorem dX7_toldFor_39 : decode cX7_toldFor 39 = .ok (.bipush (-20), 2) := by decide +kernel
theorem dX7_toldFor_41 : decode cX7_toldFor 41 = .ok (.istore 5, 2) := by decide +kernel
theorem dX7_toldFor_43 : decode cX7_toldFor 43 = .ok (.iload 5, 2) := by decide +kernel
theorem dX7_toldFor_45 : decode cX7_toldFor 45 = .ok (.bipush 20, 2) := by decide +kernel
theorem dX7_toldFor_47 : decode cX7_toldFor 47 = .ok (.if_icmp .gt 78, 3) := by decide +kernel
theorem dX7_toldFor_50 : decode cX7_toldFor 50 = .ok (.aload_n 0, 1) := by decide +kernel
theorem dX7_toldFor_51 : decode cX7_toldFor 51 = .ok (.iload_n 1, 1) := by decide +kernel
theorem dX7_toldFor_52 : decode cX7_toldFor 52 = .ok (.iconst 4, 1) := by decide +kernel
theorem dX7_toldFor_53 : decode cX7_toldFor 53 = .ok (.iload 5, 2) := by decide +kernel
theorem dX7_toldFor_55 : decode cX7_toldFor 55 = .ok (.invokevirtual 130, 3) := by decide +kernel
theorem dX7_toldFor_58 : decode cX7_toldFor 58 = .ok (.aload_n 0, 1) := by decide +kernel
theorem dX7_toldFor_59 : decode cX7_toldFor 59 = .ok (.invokevirtual 205, 3) := by decide +kernel
theorem dX7_toldFor_62 : decode cX7_toldFor 62 = .ok (.istore 6, 2) := by decide +kernel
theorem dX7_toldFor_64 : decode cX7_toldFor 64 = .ok (.aload_n 0, 1) := by decide +kernel
theorem dX7_toldFor_65 : decode cX7_toldFor 65 = .ok (.invokevirtual 235, 3) := by decide +kernel
theorem dX7_toldFor_68 : decode cX7_toldFor 68 = .ok (.lstore 7, 2) := by decide +kernel
theorem dX7_toldFor_70 : decode cX7_toldFor 70 = .ok (.iload 6, 2) := by decide +kernel
theorem dX7_toldFor_72 : decode cX7_toldFor 72 = .ok (.ifCond .eq 20, 3) := by decide +kernel
theorem dX7_toldFor_75 : decode cX7_toldFor 75 = .ok (.lload_n 3, 1) := by decide +kernel
theorem dX7_toldFor_76 : decode cX7_toldFor 76 = .ok (.lconst 0, 1) := by decide +kernel
theorem dX7_toldFor_77 : decode cX7_toldFor 77 = .ok (.lcmp, 1) := by decide +kernel
theorem dX7_toldFor_78 : decode cX7_toldFor 78 = .ok (.ifCond .lt 10, 3) := by decide +kernel
theorem dX7_toldFor_81 : decode cX7_toldFor 81 = .ok (.lload 7, 2) := by decide +kernel
theorem dX7_toldFor_83 : decode cX7_toldFor 83 = .ok (.lload_n 3, 1) := by decide +kernel
theorem dX7_toldFor_84 : decode cX7_toldFor 84 = .ok (.lcmp, 1) := by decide +kernel
theorem dX7_toldFor_85 : decode cX7_toldFor 85 = .ok (.ifCond .ge 7, 3) := by decide +kernel
theorem dX7_toldFor_88 : decode cX7_toldFor 88 = .ok (.iconst 1, 1) := by decide +kernel
theorem dX7_toldFor_89 : decode cX7_toldFor 89 = .ok (.goto 4, 3) := by decide +kernel
theorem dX7_toldFor_92 : decode cX7_toldFor 92 = .ok (.iconst 0, 1) := by decide +kernel
theorem dX7_toldFor_93 : decode cX7_toldFor 93 = .ok (.istore 9, 2) := by decide +kernel
theorem dX7_toldFor_95 : decode cX7_toldFor 95 = .ok (.iload 9, 2) := by decide +kernel
theorem dX7_toldFor_97 : decode cX7_toldFor 97 = .ok (.ifCond .eq 8, 3) := by decide +kernel
theorem dX7_toldFor_100 : decode cX7_toldFor 100 = .ok (.iload 5, 2) := by decide +kernel
theorem dX7_toldFor_102 : decode cX7_toldFor 102 = .ok (.goto 4, 3) := by decide +kernel
theorem dX7_toldFor_105 : decode cX7_toldFor 105 = .ok (.iload_n 2, 1) := by decide +kernel
theorem dX7_toldFor_106 : decode cX7_toldFor 106 = .ok (.istore_n 2, 1) := by decide +kernel
theorem dX7_toldFor_107 : decode cX7_toldFor 107 = .ok (.iload 9, 2) := by decide +kernel
theorem dX7_toldFor_109 : decode cX7_toldFor 109 = .ok (.ifCond .eq 8, 3) := by decide +kernel
theorem dX7_toldFor_112 : decode cX7_toldFor 112 = .ok (.lload 7, 2) := by decide +kernel
theorem dX7_toldFor_114 : decode cX7_toldFor 114 = .ok (.goto 4, 3) := by decide +kernel
theorem dX7_toldFor_117 : decode cX7_toldFor 117 = .ok (.lload_n 3, 1) := by decide +kernel
theorem dX7_toldFor_118 : decode cX7_toldFor 118 = .ok (.lstore_n 3, 1) := by decide +kernel
theorem dX7_toldFor_119 : decode cX7_toldFor 119 = .ok (.iinc 5 1, 3) := by decide +kernel
theorem dX7_toldFor_122 : decode cX7_toldFor 122 = .ok (.goto (-79), 3) := by decide +kernel
theorem dX7_toldFor_125 : decode cX7_toldFor 125 = .ok (.aload_n 0, 1) := by decide +kernel
theorem dX7_toldFor_126 : decode cX7_toldFor 126 = .ok (.invokevirtual 245, 3) := by decide +kernel
theorem dX7_toldFor_129 : decode cX7_toldFor 129 = .ok (.iload_n 2, 1) := by decide +kernel
theorem dX7_toldFor_130 : decode cX7_toldFor 130 = .ok (.ireturn, 1) := by decide +kernel
theorem dX7_odds_0 : decode cX7_odds 0 = .ok (.aload_n 0, 1) := by decide +kernel
theorem dX7_odds_1 : decode cX7_odds 1 = .ok (.iload_n 1, 1) := by decide +kernel
theorem dX7_odds_2 : decode cX7_odds 2 = .ok (.invokevirtual 134, 3) := by decide +kernel
theorem dX7_odds_5 : decode cX7_odds 5 = .ok (.ifCond .eq 20, 3) := by decide +kernel
theorem dX7_odds_8 : decode cX7_odds 8 = .ok (.iload_n 2, 1) := by decide +kernel
theorem dX7_odds_9 : decode cX7_odds 9 = .ok (.iconst 0, 1) := by decide +kernel
theorem dX7_odds_10 : decode cX7_odds 10 = .ok (.bipush 40, 2) := by decide +kernel
theorem dX7_odds_12 : decode cX7_odds 12 = .ok (.invokestatic 61, 3) := by decide +kernel
theorem dX7_odds_15 : decode cX7_odds 15 = .ok (.ifCond .eq 10, 3) := by decide +kernel
theorem dX7_odds_18 : decode cX7_odds 18 = .ok (.iload_n 3, 1) := by decide +kernel
theorem dX7_odds_19 : decode cX7_odds 19 = .ok (.invokestatic 228, 3) := by decide +kernel
theorem dX7_odds_22 : decode cX7_odds 22 = .ok (.ifCond .ne 10, 3) := by decide +kernel
theorem dX7_odds_25 : decode cX7_odds 25 = .ok (.aload_n 0, 1) := by decide +kernel
theorem dX7_odds_26 : decode cX7_odds 26 = .ok (.ldc 125, 2) := by decide +kernel
theorem dX7_odds_28 : decode cX7_odds 28 = .ok (.invokevirtual 126, 3) := by decide +kernel
theorem dX7_odds_31 : decode cX7_odds 31 = .ok (.ireturn, 1) := by decide +kernel
theorem dX7_odds_32 : decode cX7_odds 32 = .ok (.aload_n 0, 1) := by decide +kernel
theorem dX7_odds_33 : decode cX7_odds 33 = .ok (.invokevirtual 242, 3) := by decide +kernel
theorem dX7_odds_36 : decode cX7_odds 36 = .ok (.lconst 0, 1) := by decide +kernel
theorem dX7_odds_37 : decode cX7_odds 37 = .ok (.lstore 4, 2) := by decide +kernel
theorem dX7_odds_39 : decode cX7_odds 39 = .ok (.bipush (-20), 2) := by decide +kernel
theorem dX7_odds_41 : decode cX7_odds 41 = .ok (.istore 6, 2) := by decide +kernel
theorem dX7_odds_43 : decode cX7_odds 43 = .ok (.iload 6, 2) := by decide +kernel
theorem dX7_odds_45 : decode cX7_odds 45 = .ok (.bipush 20, 2) := by decide +kernel
theorem dX7_odds_47 : decode cX7_odds 47 = .ok (.if_icmp .gt 38, 3) := by decide +kernel
theorem dX7_odds_50 : decode cX7_odds 50 = .ok (.aload_n 0, 1) := by decide +kernel
theorem dX7_odds_51 : decode cX7_odds 51 = .ok (.iload_n 1, 1) := by decide +kernel
theorem dX7_odds_52 : decode cX7_odds 52 = .ok (.iconst 4, 1) := by decide +kernel
theorem dX7_odds_53 : decode cX7_odds 53 = .ok (.iload 6, 2) := by decide +kernel
theorem dX7_odds_55 : decode cX7_odds 55 = .ok (.invokevirtual 130, 3) := by decide +kernel
theorem dX7_odds_58 : decode cX7_odds 58 = .ok (.aload_n 0, 1) := by decide +kernel
theorem dX7_odds_59 : decode cX7_odds 59 = .ok (.iload_n 2, 1) := by decide +kernel
theorem dX7_odds_60 : decode cX7_odds 60 = .ok (.invokevirtual 215, 3) := by decide +kernel
theorem dX7_odds_63 : decode cX7_odds 63 = .ok (.lload 4, 2) := by decide +kernel
theorem dX7_odds_65 : decode cX7_odds 65 = .ok (.aload_n 0, 1) := by decide +kernel
theorem dX7_odds_66 : decode cX7_odds 66 = .ok (.iload_n 1, 1) := by decide +kernel
theorem dX7_odds_67 : decode cX7_odds 67 = .ok (.iconst 5, 1) := by decide +kernel
theorem dX7_odds_68 : decode cX7_odds 68 = .ok (.invokevirtual 65, 3) := by decide +kernel
theorem dX7_odds_71 : decode cX7_odds 71 = .ok (.i2l, 1) := by decide +kernel
theorem dX7_odds_72 : decode cX7_odds 72 = .ok (.ladd, 1) := by decide +kernel
theorem dX7_odds_73 : decode cX7_odds 73 = .ok (.lstore 4, 2) := by decide +kernel
theorem dX7_odds_75 : decode cX7_odds 75 = .ok (.aload_n 0, 1) := by decide +kernel
theorem dX7_odds_76 : decode cX7_odds 76 = .ok (.invokevirtual 245, 3) := by decide +kernel
theorem dX7_odds_79 : decode cX7_odds 79 = .ok (.iinc 6 1, 3) := by decide +kernel
theorem dX7_odds_82 : decode cX7_odds 82 = .ok (.goto (-39), 3) := by decide +kernel
theorem dX7_odds_85 : decode cX7_odds 85 = .ok (.lload 4, 2) := by decide +kernel
theorem dX7_odds_87 : decode cX7_odds 87 = .ok (.ldc2_w 254, 3) := by decide +kernel
theorem dX7_odds_90 : decode cX7_odds 90 = .ok (.iload_n 3, 1) := by decide +kernel
theorem dX7_odds_91 : decode cX7_odds 91 = .ok (.invokestatic 231, 3) := by decide +kernel
theorem dX7_odds_94 : decode cX7_odds 94 = .ok (.l2i, 1) := by decide +kernel
theorem dX7_odds_95 : decode cX7_odds 95 = .ok (.ireturn, 1) := by decide +kernel
theorem dX7_isSo_0 : decode cX7_isSo 0 = .ok (.iconst 1, 1) := by decide +kernel
theorem dX7_isSo_1 : decode cX7_isSo 1 = .ok (.istore_n 2, 1) := by decide +kernel
theorem dX7_isSo_2 : decode cX7_isSo 2 = .ok (.iconst 0, 1) := by decide +kernel
theorem dX7_isSo_3 : decode cX7_isSo 3 = .ok (.istore_n 3, 1) := by decide +kernel
theorem dX7_isSo_4 : decode cX7_isSo 4 = .ok (.iload_n 3, 1) := by decide +kernel
theorem dX7_isSo_5 : decode cX7_isSo 5 = .ok (.aload_n 0, 1) := by decide +kernel
theorem dX7_isSo_6 : decode cX7_isSo 6 = .ok (.getfield 25, 3) := by decide +kernel
theorem dX7_isSo_9 : decode cX7_isSo 9 = .ok (.iload_n 1, 1) := by decide +kernel
theorem dX7_isSo_10 : decode cX7_isSo 10 = .ok (.iaload, 1) := by decide +kernel
theorem dX7_isSo_11 : decode cX7_isSo 11 = .ok (.if_icmp .ge 41, 3) := by decide +kernel
theorem dX7_isSo_14 : decode cX7_isSo 14 = .ok (.iload_n 2, 1) := by decide +kernel
theorem dX7_isSo_15 : decode cX7_isSo 15 = .ok (.ifCond .eq 37, 3) := by decide +kernel
theorem dX7_isSo_18 : decode cX7_isSo 18 = .ok (.aload_n 0, 1) := by decide +kernel
theorem dX7_isSo_19 : decode cX7_isSo 19 = .ok (.getfield 28, 3) := by decide +kernel
theorem dX7_isSo_22 : decode cX7_isSo 22 = .ok (.bipush 24, 2) := by decide +kernel
theorem dX7_isSo_24 : decode cX7_isSo 24 = .ok (.iload_n 1, 1) := by decide +kernel
theorem dX7_isSo_25 : decode cX7_isSo 25 = .ok (.imul, 1) := by decide +kernel
theorem dX7_isSo_26 : decode cX7_isSo 26 = .ok (.iload_n 3, 1) := by decide +kernel
theorem dX7_isSo_27 : decode cX7_isSo 27 = .ok (.iadd, 1) := by decide +kernel
theorem dX7_isSo_28 : decode cX7_isSo 28 = .ok (.iaload, 1) := by decide +kernel
theorem dX7_isSo_29 : decode cX7_isSo 29 = .ok (.aload_n 0, 1) := by decide +kernel
theorem dX7_isSo_30 : decode cX7_isSo 30 = .ok (.invokevirtual 96, 3) := by decide +kernel
theorem dX7_isSo_33 : decode cX7_isSo 33 = .ok (.if_icmp .ne 7, 3) := by decide +kernel
theorem dX7_isSo_36 : decode cX7_isSo 36 = .ok (.iconst 1, 1) := by decide +kernel
theorem dX7_isSo_37 : decode cX7_isSo 37 = .ok (.goto 4, 3) := by decide +kernel
theorem dX7_isSo_40 : decode cX7_isSo 40 = .ok (.iconst 0, 1) := by decide +kernel
theorem dX7_isSo_41 : decode cX7_isSo 41 = .ok (.istore_n 2, 1) := by decide +kernel
theorem dX7_isSo_42 : decode cX7_isSo 42 = .ok (.aload_n 0, 1) := by decide +kernel
theorem dX7_isSo_43 : decode cX7_isSo 43 = .ok (.invokevirtual 212, 3) := by decide +kernel
theorem dX7_isSo_46 : decode cX7_isSo 46 = .ok (.iinc 3 1, 3) := by decide +kernel
theorem dX7_isSo_49 : decode cX7_isSo 49 = .ok (.goto (-45), 3) := by decide +kernel
theorem dX7_isSo_52 : decode cX7_isSo 52 = .ok (.aload_n 0, 1) := by decide +kernel
theorem dX7_isSo_53 : decode cX7_isSo 53 = .ok (.invokevirtual 245, 3) := by decide +kernel
theorem dX7_isSo_56 : decode cX7_isSo 56 = .ok (.iload_n 2, 1) := by decide +kernel
theorem dX7_isSo_57 : decode cX7_isSo 57 = .ok (.ireturn, 1) := by decide +kernel
theorem dX7_fits_0 : decode cX7_fits 0 = .ok (.iload_n 1, 1) := by decide +kernel
theorem dX7_fits_1 : decode cX7_fits 1 = .ok (.invokestatic 256, 3) := by decide +kernel
theorem dX7_fits_4 : decode cX7_fits 4 = .ok (.ifCond .eq 20, 3) := by decide +kernel
theorem dX7_fits_7 : decode cX7_fits 7 = .ok (.aload_n 0, 1) := by decide +kernel
theorem dX7_fits_8 : decode cX7_fits 8 = .ok (.iload_n 2, 1) := by decide +kernel
theorem dX7_fits_9 : decode cX7_fits 9 = .ok (.invokevirtual 134, 3) := by decide +kernel
theorem dX7_fits_12 : decode cX7_fits 12 = .ok (.ifCond .eq 12, 3) := by decide +kernel
theorem dX7_fits_15 : decode cX7_fits 15 = .ok (.iload_n 3, 1) := by decide +kernel
theorem dX7_fits_16 : decode cX7_fits 16 = .ok (.iconst 0, 1) := by decide +kernel
theorem dX7_fits_17 : decode cX7_fits 17 = .ok (.iconst 1, 1) := by decide +kernel
theorem dX7_fits_18 : decode cX7_fits 18 = .ok (.invokestatic 61, 3) := by decide +kernel
theorem dX7_fits_21 : decode cX7_fits 21 = .ok (.ifCond .ne 10, 3) := by decide +kernel
theorem dX7_fits_24 : decode cX7_fits 24 = .ok (.aload_n 0, 1) := by decide +kernel
theorem dX7_fits_25 : decode cX7_fits 25 = .ok (.ldc 125, 2) := by decide +kernel
theorem dX7_fits_27 : decode cX7_fits 27 = .ok (.invokevirtual 126, 3) := by decide +kernel
theorem dX7_fits_30 : decode cX7_fits 30 = .ok (.ireturn, 1) := by decide +kernel
theorem dX7_fits_31 : decode cX7_fits 31 = .ok (.aload_n 0, 1) := by decide +kernel
theorem dX7_fits_32 : decode cX7_fits 32 = .ok (.getfield 22, 3) := by decide +kernel
theorem dX7_fits_35 : decode cX7_fits 35 = .ok (.iload_n 1, 1) := by decide +kernel
theorem dX7_fits_36 : decode cX7_fits 36 = .ok (.iaload, 1) := by decide +kernel
theorem dX7_fits_37 : decode cX7_fits 37 = .ok (.ifCond .ne 10, 3) := by decide +kernel
theorem dX7_fits_40 : decode cX7_fits 40 = .ok (.aload_n 0, 1) := by decide +kernel
theorem dX7_fits_41 : decode cX7_fits 41 = .ok (.ldc 248, 2) := by decide +kernel
theorem dX7_fits_43 : decode cX7_fits 43 = .ok (.invokevirtual 126, 3) := by decide +kernel
theorem dX7_fits_46 : decode cX7_fits 46 = .ok (.ireturn, 1) := by decide +kernel
theorem dX7_fits_47 : decode cX7_fits 47 = .ok (.aload_n 0, 1) := by decide +kernel
theorem dX7_fits_48 : decode cX7_fits 48 = .ok (.invokevirtual 242, 3) := by decide +kernel
theorem dX7_fits_51 : decode cX7_fits 51 = .ok (.iconst 0, 1) := by decide +kernel
theorem dX7_fits_52 : decode cX7_fits 52 = .ok (.istore 4, 2) := by decide +kernel
theorem dX7_fits_54 : decode cX7_fits 54 = .ok (.iconst 0, 1) := by decide +kernel
theorem dX7_fits_55 : decode cX7_fits 55 = .ok (.istore 5, 2) := by decide +kernel
theorem dX7_fits_57 : decode cX7_fits 57 = .ok (.iload 5, 2) := by decide +kernel
theorem dX7_fits_59 : decode cX7_fits 59 = .ok (.bipush 6, 2) := by decide +kernel
theorem dX7_fits_61 : decode cX7_fits 61 = .ok (.if_icmp .gt 38, 3) := by decide +kernel
theorem dX7_fits_64 : decode cX7_fits 64 = .ok (.aload_n 0, 1) := by decide +kernel
theorem dX7_fits_65 : decode cX7_fits 65 = .ok (.iload_n 2, 1) := by decide +kernel
theorem dX7_fits_66 : decode cX7_fits 66 = .ok (.iconst 0, 1) := by decide +kernel
theorem dX7_fits_67 : decode cX7_fits 67 = .ok (.iload 5, 2) := by decide +kernel
theorem dX7_fits_69 : decode cX7_fits 69 = .ok (.invokevirtual 130, 3) := by decide +kernel
theorem dX7_fits_72 : decode cX7_fits 72 = .ok (.iload 4, 2) := by decide +kernel
theorem dX7_fits_74 : decode cX7_fits 74 = .ok (.aload_n 0, 1) := by decide +kernel
theorem dX7_fits_75 : decode cX7_fits 75 = .ok (.iload_n 1, 1) := by decide +kernel
theorem dX7_fits_76 : decode cX7_fits 76 = .ok (.invokevirtual 259, 3) := by decide +kernel
theorem dX7_fits_79 : decode cX7_fits 79 = .ok (.ifCond .eq 10, 3) := by decide +kernel
theorem dX7_fits_82 : decode cX7_fits 82 = .ok (.iconst 1, 1) := by decide +kernel
theorem dX7_fits_83 : decode cX7_fits 83 = .ok (.iload 5, 2) := by decide +kernel
theorem dX7_fits_85 : decode cX7_fits 85 = .ok (.ishl, 1) := by decide +kernel
theorem dX7_fits_86 : decode cX7_fits 86 = .ok (.goto 4, 3) := by decide +kernel
theorem dX7_fits_89 : decode cX7_fits 89 = .ok (.iconst 0, 1) := by decide +kernel
theorem dX7_fits_90 : decode cX7_fits 90 = .ok (.ior, 1) := by decide +kernel
theorem dX7_fits_91 : decode cX7_fits 91 = .ok (.istore 4, 2) := by decide +kernel
theorem dX7_fits_93 : decode cX7_fits 93 = .ok (.iinc 5 1, 3) := by decide +kernel
theorem dX7_fits_96 : decode cX7_fits 96 = .ok (.goto (-39), 3) := by decide +kernel
theorem dX7_fits_99 : decode cX7_fits 99 = .ok (.iload_n 3, 1) := by decide +kernel
theorem dX7_fits_100 : decode cX7_fits 100 = .ok (.ifCond .ne 8, 3) := by decide +kernel
theorem dX7_fits_103 : decode cX7_fits 103 = .ok (.iload 4, 2) := by decide +kernel
theorem dX7_fits_105 : decode cX7_fits 105 = .ok (.goto 8, 3) := by decide +kernel
theorem dX7_fits_108 : decode cX7_fits 108 = .ok (.iload 4, 2) := by decide +kernel
theorem dX7_fits_110 : decode cX7_fits 110 = .ok (.invokestatic 218, 3) := by decide +kernel
theorem dX7_fits_113 : decode cX7_fits 113 = .ok (.ireturn, 1) := by decide +kernel
theorem dX7_begins_0 : decode cX7_begins 0 = .ok (.aload_n 0, 1) := by decide +kernel
theorem dX7_begins_1 : decode cX7_begins 1 = .ok (.getfield 262, 3) := by decide +kernel
theorem dX7_begins_4 : decode cX7_begins 4 = .ok (.bipush 30, 2) := by decide +kernel
theorem dX7_begins_6 : decode cX7_begins 6 = .ok (.if_icmp .ge 23, 3) := by decide +kernel
theorem dX7_begins_9 : decode cX7_begins 9 = .ok (.aload_n 0, 1) := by decide +kernel
theorem dX7_begins_10 : decode cX7_begins 10 = .ok (.getfield 53, 3) := by decide +kernel
theorem dX7_begins_13 : decode cX7_begins 13 = .ok (.aload_n 0, 1) := by decide +kernel
theorem dX7_begins_14 : decode cX7_begins 14 = .ok (.getfield 262, 3) := by decide +kernel
theorem dX7_begins_17 : decode cX7_begins 17 = .ok (.iload_n 1, 1) := by decide +kernel
theorem dX7_begins_18 : decode cX7_begins 18 = .ok (.iastore, 1) := by decide +kernel
theorem dX7_begins_19 : decode cX7_begins 19 = .ok (.aload_n 0, 1) := by decide +kernel
theorem dX7_begins_20 : decode cX7_begins 20 = .ok (.dup, 1) := by decide +kernel
theorem dX7_begins_21 : decode cX7_begins 21 = .ok (.getfield 262, 3) := by decide +kernel
theorem dX7_begins_24 : decode cX7_begins 24 = .ok (.iconst 1, 1) := by decide +kernel
theorem dX7_begins_25 : decode cX7_begins 25 = .ok (.iadd, 1) := by decide +kernel
theorem dX7_begins_26 : decode cX7_begins 26 = .ok (.putfield 262, 3) := by decide +kernel
theorem dX7_begins_29 : decode cX7_begins 29 = .ok (.return_, 1) := by decide +kernel
theorem dX7_plainWeighs_0 : decode cX7_plainWeighs 0 = .ok (.aload_n 0, 1) := by decide +kernel
theorem dX7_plainWeighs_1 : decode cX7_plainWeighs 1 = .ok (.bipush 10, 2) := by decide +kernel
theorem dX7_plainWeighs_3 : decode cX7_plainWeighs 3 = .ok (.invokevirtual 265, 3) := by decide +kernel
theorem dX7_plainWeighs_6 : decode cX7_plainWeighs 6 = .ok (.iload_n 2, 1) := by decide +kernel
theorem dX7_plainWeighs_7 : decode cX7_plainWeighs 7 = .ok (.iload_n 1, 1) := by decide +kernel
theorem dX7_plainWeighs_8 : decode cX7_plainWeighs 8 = .ok (.iadd, 1) := by decide +kernel
theorem dX7_plainWeighs_9 : decode cX7_plainWeighs 9 = .ok (.ireturn, 1) := by decide +kernel
theorem dX7_flatWeighs_0 : decode cX7_flatWeighs 0 = .ok (.aload_n 0, 1) := by decide +kernel
theorem dX7_flatWeighs_1 : decode cX7_flatWeighs 1 = .ok (.bipush 20, 2) := by decide +kernel
theorem dX7_flatWeighs_3 : decode cX7_flatWeighs 3 = .ok (.invokevirtual 265, 3) := by decide +kernel
theorem dX7_flatWeighs_6 : decode cX7_flatWeighs 6 = .ok (.aload_n 0, 1) := by decide +kernel
theorem dX7_flatWeighs_7 : decode cX7_flatWeighs 7 = .ok (.iload_n 1, 1) := by decide +kernel
theorem dX7_flatWeighs_8 : decode cX7_flatWeighs 8 = .ok (.iload_n 2, 1) := by decide +kernel
theorem dX7_flatWeighs_9 : decode cX7_flatWeighs 9 = .ok (.invokevirtual 268, 3) := by decide +kernel
theorem dX7_flatWeighs_12 : decode cX7_flatWeighs 12 = .ok (.iconst 4, 1) := by decide +kernel
theorem dX7_flatWeighs_13 : decode cX7_flatWeighs 13 = .ok (.isub, 1) := by decide +kernel
theorem dX7_flatWeighs_14 : decode cX7_flatWeighs 14 = .ok (.ireturn, 1) := by decide +kernel
theorem dX7_weighs_0 : decode cX7_weighs 0 = .ok (.aload_n 0, 1) := by decide +kernel
theorem dX7_weighs_1 : decode cX7_weighs 1 = .ok (.iload_n 1, 1) := by decide +kernel
theorem dX7_weighs_2 : decode cX7_weighs 2 = .ok (.iconst 0, 1) := by decide +kernel
theorem dX7_weighs_3 : decode cX7_weighs 3 = .ok (.invokevirtual 65, 3) := by decide +kernel
theorem dX7_weighs_6 : decode cX7_weighs 6 = .ok (.lookupswitch 65 #[(1, 34), (4, 41), (6, 56)], 34) := by decide +kernel
theorem dX7_weighs_40 : decode cX7_weighs 40 = .ok (.aload_n 0, 1) := by decide +kernel
theorem dX7_weighs_41 : decode cX7_weighs 41 = .ok (.iload_n 1, 1) := by decide +kernel
theorem dX7_weighs_42 : decode cX7_weighs 42 = .ok (.iload_n 2, 1) := by decide +kernel
theorem dX7_weighs_43 : decode cX7_weighs 43 = .ok (.invokevirtual 271, 3) := by decide +kernel
theorem dX7_weighs_46 : decode cX7_weighs 46 = .ok (.ireturn, 1) := by decide +kernel
theorem dX7_weighs_47 : decode cX7_weighs 47 = .ok (.aload_n 0, 1) := by decide +kernel
theorem dX7_weighs_48 : decode cX7_weighs 48 = .ok (.bipush 50, 2) := by decide +kernel
theorem dX7_weighs_50 : decode cX7_weighs 50 = .ok (.invokevirtual 265, 3) := by decide +kernel
theorem dX7_weighs_53 : decode cX7_weighs 53 = .ok (.aload_n 0, 1) := by decide +kernel
theorem dX7_weighs_54 : decode cX7_weighs 54 = .ok (.iload_n 1, 1) := by decide +kernel
theorem dX7_weighs_55 : decode cX7_weighs 55 = .ok (.iload_n 2, 1) := by decide +kernel
theorem dX7_weighs_56 : decode cX7_weighs 56 = .ok (.invokevirtual 271, 3) := by decide +kernel
theorem dX7_weighs_59 : decode cX7_weighs 59 = .ok (.iconst 3, 1) := by decide +kernel
theorem dX7_weighs_60 : decode cX7_weighs 60 = .ok (.imul, 1) := by decide +kernel
theorem dX7_weighs_61 : decode cX7_weighs 61 = .ok (.ireturn, 1) := by decide +kernel
theorem dX7_weighs_62 : decode cX7_weighs 62 = .ok (.aload_n 0, 1) := by decide +kernel
theorem dX7_weighs_63 : decode cX7_weighs 63 = .ok (.bipush 70, 2) := by decide +kernel
theorem dX7_weighs_65 : decode cX7_weighs 65 = .ok (.invokevirtual 265, 3) := by decide +kernel
theorem dX7_weighs_68 : decode cX7_weighs 68 = .ok (.bipush 9, 2) := by decide +kernel
theorem dX7_weighs_70 : decode cX7_weighs 70 = .ok (.ireturn, 1) := by decide +kernel
theorem dX7_weighs_71 : decode cX7_weighs 71 = .ok (.aload_n 0, 1) := by decide +kernel
theorem dX7_weighs_72 : decode cX7_weighs 72 = .ok (.iload_n 1, 1) := by decide +kernel
theorem dX7_weighs_73 : decode cX7_weighs 73 = .ok (.iload_n 2, 1) := by decide +kernel
theorem dX7_weighs_74 : decode cX7_weighs 74 = .ok (.invokevirtual 268, 3) := by decide +kernel
theorem dX7_weighs_77 : decode cX7_weighs 77 = .ok (.ireturn, 1) := by decide +kernel
theorem dX7_plainSays_0 : decode cX7_plainSays 0 = .ok (.aload_n 0, 1) := by decide +kernel
theorem dX7_plainSays_1 : decode cX7_plainSays 1 = .ok (.bipush 11, 2) := by decide +kernel
theorem dX7_plainSays_3 : decode cX7_plainSays 3 = .ok (.invokevirtual 265, 3) := by decide +kernel
theorem dX7_plainSays_6 : decode cX7_plainSays 6 = .ok (.aload_n 0, 1) := by decide +kernel
theorem dX7_plainSays_7 : decode cX7_plainSays 7 = .ok (.iload_n 1, 1) := by decide +kernel
theorem dX7_plainSays_8 : decode cX7_plainSays 8 = .ok (.iload_n 2, 1) := by decide +kernel
theorem dX7_plainSays_9 : decode cX7_plainSays 9 = .ok (.invokevirtual 274, 3) := by decide +kernel
theorem dX7_plainSays_12 : decode cX7_plainSays 12 = .ok (.iconst 2, 1) := by decide +kernel
theorem dX7_plainSays_13 : decode cX7_plainSays 13 = .ok (.imul, 1) := by decide +kernel
theorem dX7_plainSays_14 : decode cX7_plainSays 14 = .ok (.ireturn, 1) := by decide +kernel
theorem dX7_starSays_0 : decode cX7_starSays 0 = .ok (.aload_n 0, 1) := by decide +kernel
theorem dX7_starSays_1 : decode cX7_starSays 1 = .ok (.bipush 30, 2) := by decide +kernel
theorem dX7_starSays_3 : decode cX7_starSays 3 = .ok (.invokevirtual 265, 3) := by decide +kernel
theorem dX7_starSays_6 : decode cX7_starSays 6 = .ok (.aload_n 0, 1) := by decide +kernel
theorem dX7_starSays_7 : decode cX7_starSays 7 = .ok (.iload_n 1, 1) := by decide +kernel
theorem dX7_starSays_8 : decode cX7_starSays 8 = .ok (.iload_n 2, 1) := by decide +kernel
theorem dX7_starSays_9 : decode cX7_starSays 9 = .ok (.invokevirtual 277, 3) := by decide +kernel
theorem dX7_starSays_12 : decode cX7_starSays 12 = .ok (.ineg, 1) := by decide +kernel
theorem dX7_starSays_13 : decode cX7_starSays 13 = .ok (.ireturn, 1) := by decide +kernel
theorem dX7_says_0 : decode cX7_says 0 = .ok (.aload_n 0, 1) := by decide +kernel
theorem dX7_says_1 : decode cX7_says 1 = .ok (.iload_n 1, 1) := by decide +kernel
theorem dX7_says_2 : decode cX7_says 2 = .ok (.iconst 0, 1) := by decide +kernel
theorem dX7_says_3 : decode cX7_says 3 = .ok (.invokevirtual 65, 3) := by decide +kernel
theorem dX7_says_6 : decode cX7_says 6 = .ok (.tableswitch 76 2 6 #[34, 76, 76, 41, 56], 34) := by decide +kernel
theorem dX7_says_40 : decode cX7_says 40 = .ok (.aload_n 0, 1) := by decide +kernel
theorem dX7_says_41 : decode cX7_says 41 = .ok (.iload_n 1, 1) := by decide +kernel
theorem dX7_says_42 : decode cX7_says 42 = .ok (.iload_n 2, 1) := by decide +kernel
theorem dX7_says_43 : decode cX7_says 43 = .ok (.invokevirtual 280, 3) := by decide +kernel
theorem dX7_says_46 : decode cX7_says 46 = .ok (.ireturn, 1) := by decide +kernel
theorem dX7_says_47 : decode cX7_says 47 = .ok (.aload_n 0, 1) := by decide +kernel
theorem dX7_says_48 : decode cX7_says 48 = .ok (.bipush 60, 2) := by decide +kernel
theorem dX7_says_50 : decode cX7_says 50 = .ok (.invokevirtual 265, 3) := by decide +kernel
theorem dX7_says_53 : decode cX7_says 53 = .ok (.aload_n 0, 1) := by decide +kernel
theorem dX7_says_54 : decode cX7_says 54 = .ok (.iload_n 1, 1) := by decide +kernel
theorem dX7_says_55 : decode cX7_says 55 = .ok (.iload_n 2, 1) := by decide +kernel
theorem dX7_says_56 : decode cX7_says 56 = .ok (.iconst 1, 1) := by decide +kernel
theorem dX7_says_57 : decode cX7_says 57 = .ok (.iadd, 1) := by decide +kernel
theorem dX7_says_58 : decode cX7_says 58 = .ok (.invokevirtual 280, 3) := by decide +kernel
theorem dX7_says_61 : decode cX7_says 61 = .ok (.ireturn, 1) := by decide +kernel
theorem dX7_says_62 : decode cX7_says 62 = .ok (.aload_n 0, 1) := by decide +kernel
theorem dX7_says_63 : decode cX7_says 63 = .ok (.bipush 71, 2) := by decide +kernel
theorem dX7_says_65 : decode cX7_says 65 = .ok (.invokevirtual 265, 3) := by decide +kernel
theorem dX7_says_68 : decode cX7_says 68 = .ok (.aload_n 0, 1) := by decide +kernel
theorem dX7_says_69 : decode cX7_says 69 = .ok (.iload_n 1, 1) := by decide +kernel
theorem dX7_says_70 : decode cX7_says 70 = .ok (.iload_n 2, 1) := by decide +kernel
theorem dX7_says_71 : decode cX7_says 71 = .ok (.invokevirtual 277, 3) := by decide +kernel
theorem dX7_says_74 : decode cX7_says 74 = .ok (.aload_n 0, 1) := by decide +kernel
theorem dX7_says_75 : decode cX7_says 75 = .ok (.iload_n 1, 1) := by decide +kernel
theorem dX7_says_76 : decode cX7_says 76 = .ok (.iconst 1, 1) := by decide +kernel
theorem dX7_says_77 : decode cX7_says 77 = .ok (.invokevirtual 65, 3) := by decide +kernel
theorem dX7_says_80 : decode cX7_says 80 = .ok (.iadd, 1) := by decide +kernel
theorem dX7_says_81 : decode cX7_says 81 = .ok (.ireturn, 1) := by decide +kernel
theorem dX7_says_82 : decode cX7_says 82 = .ok (.aload_n 0, 1) := by decide +kernel
theorem dX7_says_83 : decode cX7_says 83 = .ok (.iload_n 1, 1) := by decide +kernel
theorem dX7_says_84 : decode cX7_says 84 = .ok (.iload_n 2, 1) := by decide +kernel
theorem dX7_says_85 : decode cX7_says 85 = .ok (.invokevirtual 277, 3) := by decide +kernel
theorem dX7_says_88 : decode cX7_says 88 = .ok (.ireturn, 1) := by decide +kernel
theorem dX7_plainTies_0 : decode cX7_plainTies 0 = .ok (.aload_n 0, 1) := by decide +kernel
theorem dX7_plainTies_1 : decode cX7_plainTies 1 = .ok (.bipush 12, 2) := by decide +kernel
theorem dX7_plainTies_3 : decode cX7_plainTies 3 = .ok (.invokevirtual 265, 3) := by decide +kernel
theorem dX7_plainTies_6 : decode cX7_plainTies 6 = .ok (.aload_n 0, 1) := by decide +kernel
theorem dX7_plainTies_7 : decode cX7_plainTies 7 = .ok (.iload_n 1, 1) := by decide +kernel
theorem dX7_plainTies_8 : decode cX7_plainTies 8 = .ok (.iload_n 2, 1) := by decide +kernel
theorem dX7_plainTies_9 : decode cX7_plainTies 9 = .ok (.invokevirtual 283, 3) := by decide +kernel
theorem dX7_plainTies_12 : decode cX7_plainTies 12 = .ok (.aload_n 0, 1) := by decide +kernel
theorem dX7_plainTies_13 : decode cX7_plainTies 13 = .ok (.iload_n 1, 1) := by decide +kernel
theorem dX7_plainTies_14 : decode cX7_plainTies 14 = .ok (.iconst 1, 1) := by decide +kernel
theorem dX7_plainTies_15 : decode cX7_plainTies 15 = .ok (.invokevirtual 65, 3) := by decide +kernel
theorem dX7_plainTies_18 : decode cX7_plainTies 18 = .ok (.isub, 1) := by decide +kernel
theorem dX7_plainTies_19 : decode cX7_plainTies 19 = .ok (.ireturn, 1) := by decide +kernel
theorem dX7_ties_0 : decode cX7_ties 0 = .ok (.aload_n 0, 1) := by decide +kernel
theorem dX7_ties_1 : decode cX7_ties 1 = .ok (.iload_n 1, 1) := by decide +kernel
theorem dX7_ties_2 : decode cX7_ties 2 = .ok (.iconst 0, 1) := by decide +kernel
theorem dX7_ties_3 : decode cX7_ties 3 = .ok (.invokevirtual 65, 3) := by decide +kernel
theorem dX7_ties_6 : decode cX7_ties 6 = .ok (.lookupswitch 56 #[(3, 26), (4, 41)], 26) := by decide +kernel
theorem dX7_ties_32 : decode cX7_ties 32 = .ok (.aload_n 0, 1) := by decide +kernel
theorem dX7_ties_33 : decode cX7_ties 33 = .ok (.bipush 40, 2) := by decide +kernel
theorem dX7_ties_35 : decode cX7_ties 35 = .ok (.invokevirtual 265, 3) := by decide +kernel
theorem dX7_ties_38 : decode cX7_ties 38 = .ok (.aload_n 0, 1) := by decide +kernel
theorem dX7_ties_39 : decode cX7_ties 39 = .ok (.iload_n 1, 1) := by decide +kernel
theorem dX7_ties_40 : decode cX7_ties 40 = .ok (.iload_n 2, 1) := by decide +kernel
theorem dX7_ties_41 : decode cX7_ties 41 = .ok (.iconst 2, 1) := by decide +kernel
theorem dX7_ties_42 : decode cX7_ties 42 = .ok (.idiv, 1) := by decide +kernel
theorem dX7_ties_43 : decode cX7_ties 43 = .ok (.invokevirtual 286, 3) := by decide +kernel
theorem dX7_ties_46 : decode cX7_ties 46 = .ok (.ireturn, 1) := by decide +kernel
theorem dX7_ties_47 : decode cX7_ties 47 = .ok (.aload_n 0, 1) := by decide +kernel
theorem dX7_ties_48 : decode cX7_ties 48 = .ok (.bipush 51, 2) := by decide +kernel
theorem dX7_ties_50 : decode cX7_ties 50 = .ok (.invokevirtual 265, 3) := by decide +kernel
theorem dX7_ties_53 : decode cX7_ties 53 = .ok (.aload_n 0, 1) := by decide +kernel
theorem dX7_ties_54 : decode cX7_ties 54 = .ok (.iload_n 1, 1) := by decide +kernel
theorem dX7_ties_55 : decode cX7_ties 55 = .ok (.iload_n 2, 1) := by decide +kernel
theorem dX7_ties_56 : decode cX7_ties 56 = .ok (.invokevirtual 286, 3) := by decide +kernel
theorem dX7_ties_59 : decode cX7_ties 59 = .ok (.iload_n 1, 1) := by decide +kernel
theorem dX7_ties_60 : decode cX7_ties 60 = .ok (.ixor, 1) := by decide +kernel
theorem dX7_ties_61 : decode cX7_ties 61 = .ok (.ireturn, 1) := by decide +kernel
theorem dX7_ties_62 : decode cX7_ties 62 = .ok (.aload_n 0, 1) := by decide +kernel
theorem dX7_ties_63 : decode cX7_ties 63 = .ok (.iload_n 1, 1) := by decide +kernel
theorem dX7_ties_64 : decode cX7_ties 64 = .ok (.iload_n 2, 1) := by decide +kernel
theorem dX7_ties_65 : decode cX7_ties 65 = .ok (.invokevirtual 286, 3) := by decide +kernel
theorem dX7_ties_68 : decode cX7_ties 68 = .ok (.ireturn, 1) := by decide +kernel
theorem dX7_plainParts_0 : decode cX7_plainParts 0 = .ok (.aload_n 0, 1) := by decide +kernel
theorem dX7_plainParts_1 : decode cX7_plainParts 1 = .ok (.bipush 13, 2) := by decide +kernel
theorem dX7_plainParts_3 : decode cX7_plainParts 3 = .ok (.invokevirtual 265, 3) := by decide +kernel
theorem dX7_plainParts_6 : decode cX7_plainParts 6 = .ok (.aload_n 0, 1) := by decide +kernel
theorem dX7_plainParts_7 : decode cX7_plainParts 7 = .ok (.iload_n 1, 1) := by decide +kernel
theorem dX7_plainParts_8 : decode cX7_plainParts 8 = .ok (.iconst 1, 1) := by decide +kernel
theorem dX7_plainParts_9 : decode cX7_plainParts 9 = .ok (.invokevirtual 65, 3) := by decide +kernel
theorem dX7_plainParts_12 : decode cX7_plainParts 12 = .ok (.iload_n 1, 1) := by decide +kernel
theorem dX7_plainParts_13 : decode cX7_plainParts 13 = .ok (.isub, 1) := by decide +kernel
theorem dX7_plainParts_14 : decode cX7_plainParts 14 = .ok (.istore_n 3, 1) := by decide +kernel
theorem dX7_plainParts_15 : decode cX7_plainParts 15 = .ok (.aload_n 0, 1) := by decide +kernel
theorem dX7_plainParts_16 : decode cX7_plainParts 16 = .ok (.iload_n 3, 1) := by decide +kernel
theorem dX7_plainParts_17 : decode cX7_plainParts 17 = .ok (.ifCond .ne 7, 3) := by decide +kernel
theorem dX7_plainParts_20 : decode cX7_plainParts 20 = .ok (.iconst 1, 1) := by decide +kernel
theorem dX7_plainParts_21 : decode cX7_plainParts 21 = .ok (.goto 4, 3) := by decide +kernel
theorem dX7_plainParts_24 : decode cX7_plainParts 24 = .ok (.iconst 0, 1) := by decide +kernel
theorem dX7_plainParts_25 : decode cX7_plainParts 25 = .ok (.putfield 289, 3) := by decide +kernel
theorem dX7_plainParts_28 : decode cX7_plainParts 28 = .ok (.aload_n 0, 1) := by decide +kernel
theorem dX7_plainParts_29 : decode cX7_plainParts 29 = .ok (.getfield 289, 3) := by decide +kernel
theorem dX7_plainParts_32 : decode cX7_plainParts 32 = .ok (.ifCond .eq 7, 3) := by decide +kernel
theorem dX7_plainParts_35 : decode cX7_plainParts 35 = .ok (.iconst 0, 1) := by decide +kernel
theorem dX7_plainParts_36 : decode cX7_plainParts 36 = .ok (.goto 6, 3) := by decide +kernel
theorem dX7_plainParts_39 : decode cX7_plainParts 39 = .ok (.iload_n 2, 1) := by decide +kernel
theorem dX7_plainParts_40 : decode cX7_plainParts 40 = .ok (.iload_n 3, 1) := by decide +kernel
theorem dX7_plainParts_41 : decode cX7_plainParts 41 = .ok (.idiv, 1) := by decide +kernel
theorem dX7_plainParts_42 : decode cX7_plainParts 42 = .ok (.ireturn, 1) := by decide +kernel
theorem dX7_partsBy_0 : decode cX7_partsBy 0 = .ok (.aload_n 0, 1) := by decide +kernel
theorem dX7_partsBy_1 : decode cX7_partsBy 1 = .ok (.iload_n 1, 1) := by decide +kernel
theorem dX7_partsBy_2 : decode cX7_partsBy 2 = .ok (.iconst 0, 1) := by decide +kernel
theorem dX7_partsBy_3 : decode cX7_partsBy 3 = .ok (.invokevirtual 65, 3) := by decide +kernel
theorem dX7_partsBy_6 : decode cX7_partsBy 6 = .ok (.iconst 1, 1) := by decide +kernel
theorem dX7_partsBy_7 : decode cX7_partsBy 7 = .ok (.if_icmp .eq 13, 3) := by decide +kernel
theorem dX7_partsBy_10 : decode cX7_partsBy 10 = .ok (.aload_n 0, 1) := by decide +kernel
theorem dX7_partsBy_11 : decode cX7_partsBy 11 = .ok (.iload_n 1, 1) := by decide +kernel
theorem dX7_partsBy_12 : decode cX7_partsBy 12 = .ok (.iconst 0, 1) := by decide +kernel
theorem dX7_partsBy_13 : decode cX7_partsBy 13 = .ok (.invokevirtual 65, 3) := by decide +kernel
theorem dX7_partsBy_16 : decode cX7_partsBy 16 = .ok (.iconst 4, 1) := by decide +kernel
theorem dX7_partsBy_17 : decode cX7_partsBy 17 = .ok (.if_icmp .ne 36, 3) := by decide +kernel
theorem dX7_partsBy_20 : decode cX7_partsBy 20 = .ok (.aload_n 0, 1) := by decide +kernel
theorem dX7_partsBy_21 : decode cX7_partsBy 21 = .ok (.bipush 21, 2) := by decide +kernel
theorem dX7_partsBy_23 : decode cX7_partsBy 23 = .ok (.invokevirtual 265, 3) := by decide +kernel
theorem dX7_partsBy_26 : decode cX7_partsBy 26 = .ok (.aload_n 0, 1) := by decide +kernel
theorem dX7_partsBy_27 : decode cX7_partsBy 27 = .ok (.iload_n 1, 1) := by decide +kernel
theorem dX7_partsBy_28 : decode cX7_partsBy 28 = .ok (.iload_n 2, 1) := by decide +kernel
theorem dX7_partsBy_29 : decode cX7_partsBy 29 = .ok (.invokevirtual 292, 3) := by decide +kernel
theorem dX7_partsBy_32 : decode cX7_partsBy 32 = .ok (.istore_n 3, 1) := by decide +kernel
theorem dX7_partsBy_33 : decode cX7_partsBy 33 = .ok (.aload_n 0, 1) := by decide +kernel
theorem dX7_partsBy_34 : decode cX7_partsBy 34 = .ok (.getfield 289, 3) := by decide +kernel
theorem dX7_partsBy_37 : decode cX7_partsBy 37 = .ok (.ifCond .eq 7, 3) := by decide +kernel
theorem dX7_partsBy_40 : decode cX7_partsBy 40 = .ok (.iconst 0, 1) := by decide +kernel
theorem dX7_partsBy_41 : decode cX7_partsBy 41 = .ok (.goto 11, 3) := by decide +kernel
theorem dX7_partsBy_44 : decode cX7_partsBy 44 = .ok (.iload_n 3, 1) := by decide +kernel
theorem dX7_partsBy_45 : decode cX7_partsBy 45 = .ok (.aload_n 0, 1) := by decide +kernel
theorem dX7_partsBy_46 : decode cX7_partsBy 46 = .ok (.iload_n 1, 1) := by decide +kernel
theorem dX7_partsBy_47 : decode cX7_partsBy 47 = .ok (.iconst 1, 1) := by decide +kernel
theorem dX7_partsBy_48 : decode cX7_partsBy 48 = .ok (.invokevirtual 283, 3) := by decide +kernel
theorem dX7_partsBy_51 : decode cX7_partsBy 51 = .ok (.iadd, 1) := by decide +kernel
theorem dX7_partsBy_52 : decode cX7_partsBy 52 = .ok (.ireturn, 1) := by decide +kernel
theorem dX7_partsBy_53 : decode cX7_partsBy 53 = .ok (.aload_n 0, 1) := by decide +kernel
theorem dX7_partsBy_54 : decode cX7_partsBy 54 = .ok (.iload_n 1, 1) := by decide +kernel
theorem dX7_partsBy_55 : decode cX7_partsBy 55 = .ok (.iload_n 2, 1) := by decide +kernel
theorem dX7_partsBy_56 : decode cX7_partsBy 56 = .ok (.invokevirtual 292, 3) := by decide +kernel
theorem dX7_partsBy_59 : decode cX7_partsBy 59 = .ok (.ireturn, 1) := by decide +kernel
theorem dX7_voice_0 : decode cX7_voice 0 = .ok (.aload_n 0, 1) := by decide +kernel
theorem dX7_voice_1 : decode cX7_voice 1 = .ok (.iload_n 1, 1) := by decide +kernel
theorem dX7_voice_2 : decode cX7_voice 2 = .ok (.invokevirtual 134, 3) := by decide +kernel
theorem dX7_voice_5 : decode cX7_voice 5 = .ok (.ifCond .eq 12, 3) := by decide +kernel
theorem dX7_voice_8 : decode cX7_voice 8 = .ok (.iload_n 2, 1) := by decide +kernel
theorem dX7_voice_9 : decode cX7_voice 9 = .ok (.iconst 0, 1) := by decide +kernel
theorem dX7_voice_10 : decode cX7_voice 10 = .ok (.iconst 3, 1) := by decide +kernel
theorem dX7_voice_11 : decode cX7_voice 11 = .ok (.invokestatic 61, 3) := by decide +kernel
theorem dX7_voice_14 : decode cX7_voice 14 = .ok (.ifCond .ne 10, 3) := by decide +kernel
theorem dX7_voice_17 : decode cX7_voice 17 = .ok (.aload_n 0, 1) := by decide +kernel
theorem dX7_voice_18 : decode cX7_voice 18 = .ok (.ldc 125, 2) := by decide +kernel
theorem dX7_voice_20 : decode cX7_voice 20 = .ok (.invokevirtual 126, 3) := by decide +kernel
theorem dX7_voice_23 : decode cX7_voice 23 = .ok (.ireturn, 1) := by decide +kernel
theorem dX7_voice_24 : decode cX7_voice 24 = .ok (.aload_n 0, 1) := by decide +kernel
theorem dX7_voice_25 : decode cX7_voice 25 = .ok (.iconst 0, 1) := by decide +kernel
theorem dX7_voice_26 : decode cX7_voice 26 = .ok (.putfield 262, 3) := by decide +kernel
theorem dX7_voice_29 : decode cX7_voice 29 = .ok (.aload_n 0, 1) := by decide +kernel
theorem dX7_voice_30 : decode cX7_voice 30 = .ok (.iconst 0, 1) := by decide +kernel
theorem dX7_voice_31 : decode cX7_voice 31 = .ok (.putfield 289, 3) := by decide +kernel
theorem dX7_voice_34 : decode cX7_voice 34 = .ok (.iload_n 2, 1) := by decide +kernel
theorem dX7_voice_35 : decode cX7_voice 35 = .ok (.ifCond .ne 12, 3) := by decide +kernel
theorem dX7_voice_38 : decode cX7_voice 38 = .ok (.aload_n 0, 1) := by decide +kernel
theorem dX7_voice_39 : decode cX7_voice 39 = .ok (.iload_n 1, 1) := by decide +kernel
theorem dX7_voice_40 : decode cX7_voice 40 = .ok (.iload_n 3, 1) := by decide +kernel
theorem dX7_voice_41 : decode cX7_voice 41 = .ok (.invokevirtual 274, 3) := by decide +kernel
theorem dX7_voice_44 : decode cX7_voice 44 = .ok (.goto 37, 3) := by decide +kernel
theorem dX7_voice_47 : decode cX7_voice 47 = .ok (.iload_n 2, 1) := by decide +kernel
theorem dX7_voice_48 : decode cX7_voice 48 = .ok (.iconst 1, 1) := by decide +kernel
theorem dX7_voice_49 : decode cX7_voice 49 = .ok (.if_icmp .ne 12, 3) := by decide +kernel
theorem dX7_voice_52 : decode cX7_voice 52 = .ok (.aload_n 0, 1) := by decide +kernel
theorem dX7_voice_53 : decode cX7_voice 53 = .ok (.iload_n 1, 1) := by decide +kernel
theorem dX7_voice_54 : decode cX7_voice 54 = .ok (.iload_n 3, 1) := by decide +kernel
theorem dX7_voice_55 : decode cX7_voice 55 = .ok (.invokevirtual 283, 3) := by decide +kernel
theorem dX7_voice_58 : decode cX7_voice 58 = .ok (.goto 23, 3) := by decide +kernel
theorem dX7_voice_61 : decode cX7_voice 61 = .ok (.iload_n 2, 1) := by decide +kernel
theorem dX7_voice_62 : decode cX7_voice 62 = .ok (.iconst 2, 1) := by decide +kernel
theorem dX7_voice_63 : decode cX7_voice 63 = .ok (.if_icmp .ne 12, 3) := by decide +kernel
theorem dX7_voice_66 : decode cX7_voice 66 = .ok (.aload_n 0, 1) := by decide +kernel
theorem dX7_voice_67 : decode cX7_voice 67 = .ok (.iload_n 1, 1) := by decide +kernel
theorem dX7_voice_68 : decode cX7_voice 68 = .ok (.iload_n 3, 1) := by decide +kernel
theorem dX7_voice_69 : decode cX7_voice 69 = .ok (.invokevirtual 295, 3) := by decide +kernel
theorem dX7_voice_72 : decode cX7_voice 72 = .ok (.goto 9, 3) := by decide +kernel
theorem dX7_voice_75 : decode cX7_voice 75 = .ok (.aload_n 0, 1) := by decide +kernel
theorem dX7_voice_76 : decode cX7_voice 76 = .ok (.iload_n 1, 1) := by decide +kernel
theorem dX7_voice_77 : decode cX7_voice 77 = .ok (.iload_n 3, 1) := by decide +kernel
theorem dX7_voice_78 : decode cX7_voice 78 = .ok (.invokevirtual 298, 3) := by decide +kernel
theorem dX7_voice_81 : decode cX7_voice 81 = .ok (.istore 4, 2) := by decide +kernel
theorem dX7_voice_83 : decode cX7_voice 83 = .ok (.aload_n 0, 1) := by decide +kernel
theorem dX7_voice_84 : decode cX7_voice 84 = .ok (.getfield 289, 3) := by decide +kernel
theorem dX7_voice_87 : decode cX7_voice 87 = .ok (.ifCond .eq 13, 3) := by decide +kernel
theorem dX7_voice_90 : decode cX7_voice 90 = .ok (.aload_n 0, 1) := by decide +kernel
theorem dX7_voice_91 : decode cX7_voice 91 = .ok (.ldc_w 301, 3) := by decide +kernel
theorem dX7_voice_94 : decode cX7_voice 94 = .ok (.invokevirtual 126, 3) := by decide +kernel
theorem dX7_voice_97 : decode cX7_voice 97 = .ok (.goto 5, 3) := by decide +kernel
theorem dX7_voice_100 : decode cX7_voice 100 = .ok (.iload 4, 2) := by decide +kernel
theorem dX7_voice_102 : decode cX7_voice 102 = .ok (.ireturn, 1) := by decide +kernel
theorem dX7_body_0 : decode cX7_body 0 = .ok (.iload_n 1, 1) := by decide +kernel
theorem dX7_body_1 : decode cX7_body 1 = .ok (.iconst 0, 1) := by decide +kernel
theorem dX7_body_2 : decode cX7_body 2 = .ok (.aload_n 0, 1) := by decide +kernel
theorem dX7_body_3 : decode cX7_body 3 = .ok (.getfield 262, 3) := by decide +kernel
theorem dX7_body_6 : decode cX7_body 6 = .ok (.iconst 1, 1) := by decide +kernel
theorem dX7_body_7 : decode cX7_body 7 = .ok (.isub, 1) := by decide +kernel
theorem dX7_body_8 : decode cX7_body 8 = .ok (.invokestatic 61, 3) := by decide +kernel
theorem dX7_body_11 : decode cX7_body 11 = .ok (.ifCond .eq 12, 3) := by decide +kernel
theorem dX7_body_14 : decode cX7_body 14 = .ok (.aload_n 0, 1) := by decide +kernel
theorem dX7_body_15 : decode cX7_body 15 = .ok (.getfield 53, 3) := by decide +kernel
theorem dX7_body_18 : decode cX7_body 18 = .ok (.iload_n 1, 1) := by decide +kernel
theorem dX7_body_19 : decode cX7_body 19 = .ok (.iaload, 1) := by decide +kernel
theorem dX7_body_20 : decode cX7_body 20 = .ok (.goto 9, 3) := by decide +kernel
theorem dX7_body_23 : decode cX7_body 23 = .ok (.aload_n 0, 1) := by decide +kernel
theorem dX7_body_24 : decode cX7_body 24 = .ok (.ldc 248, 2) := by decide +kernel
theorem dX7_body_26 : decode cX7_body 26 = .ok (.invokevirtual 126, 3) := by decide +kernel
theorem dX7_body_29 : decode cX7_body 29 = .ok (.ireturn, 1) := by decide +kernel
theorem dX7_isSheet_0 : decode cX7_isSheet 0 = .ok (.iload_n 0, 1) := by decide +kernel
theorem dX7_isSheet_1 : decode cX7_isSheet 1 = .ok (.iconst 0, 1) := by decide +kernel
theorem dX7_isSheet_2 : decode cX7_isSheet 2 = .ok (.iconst 3, 1) := by decide +kernel
theorem dX7_isSheet_3 : decode cX7_isSheet 3 = .ok (.invokestatic 61, 3) := by decide +kernel
theorem dX7_isSheet_6 : decode cX7_isSheet 6 = .ok (.ireturn, 1) := by decide +kernel
theorem dX7_sheet_0 : decode cX7_sheet 0 = .ok (.iload_n 1, 1) := by decide +kernel
theorem dX7_sheet_1 : decode cX7_sheet 1 = .ok (.invokestatic 256, 3) := by decide +kernel
theorem dX7_sheet_4 : decode cX7_sheet 4 = .ok (.ifCond .eq 25, 3) := by decide +kernel
theorem dX7_sheet_7 : decode cX7_sheet 7 = .ok (.iload_n 2, 1) := by decide +kernel
theorem dX7_sheet_8 : decode cX7_sheet 8 = .ok (.ifCond .eq 28, 3) := by decide +kernel
theorem dX7_sheet_11 : decode cX7_sheet 11 = .ok (.iload_n 2, 1) := by decide +kernel
theorem dX7_sheet_12 : decode cX7_sheet 12 = .ok (.bipush 8, 2) := by decide +kernel
theorem dX7_sheet_14 : decode cX7_sheet 14 = .ok (.if_icmp .eq 22, 3) := by decide +kernel
theorem dX7_sheet_17 : decode cX7_sheet 17 = .ok (.iload_n 2, 1) := by decide +kernel
theorem dX7_sheet_18 : decode cX7_sheet 18 = .ok (.bipush 16, 2) := by decide +kernel
theorem dX7_sheet_20 : decode cX7_sheet 20 = .ok (.if_icmp .eq 16, 3) := by decide +kernel
theorem dX7_sheet_23 : decode cX7_sheet 23 = .ok (.iload_n 2, 1) := by decide +kernel
theorem dX7_sheet_24 : decode cX7_sheet 24 = .ok (.bipush 32, 2) := by decide +kernel
theorem dX7_sheet_26 : decode cX7_sheet 26 = .ok (.if_icmp .eq 10, 3) := by decide +kernel
theorem dX7_sheet_29 : decode cX7_sheet 29 = .ok (.aload_n 0, 1) := by decide +kernel
theorem dX7_sheet_30 : decode cX7_sheet 30 = .ok (.ldc 125, 2) := by decide +kernel
theorem dX7_sheet_32 : decode cX7_sheet 32 = .ok (.invokevirtual 126, 3) := by decide +kernel
theorem dX7_sheet_35 : decode cX7_sheet 35 = .ok (.ireturn, 1) := by decide +kernel
theorem dX7_sheet_36 : decode cX7_sheet 36 = .ok (.iload_n 2, 1) := by decide +kernel
theorem dX7_sheet_37 : decode cX7_sheet 37 = .ok (.ifCond .le 14, 3) := by decide +kernel
theorem dX7_sheet_40 : decode cX7_sheet 40 = .ok (.iload_n 3, 1) := by decide +kernel
theorem dX7_sheet_41 : decode cX7_sheet 41 = .ok (.ifCond .ge 10, 3) := by decide +kernel
theorem dX7_sheet_44 : decode cX7_sheet 44 = .ok (.aload_n 0, 1) := by decide +kernel
theorem dX7_sheet_45 : decode cX7_sheet 45 = .ok (.ldc 141, 2) := by decide +kernel
theorem dX7_sheet_47 : decode cX7_sheet 47 = .ok (.invokevirtual 126, 3) := by decide +kernel
theorem dX7_sheet_50 : decode cX7_sheet 50 = .ok (.ireturn, 1) := by decide +kernel
theorem dX7_sheet_51 : decode cX7_sheet 51 = .ok (.iload_n 2, 1) := by decide +kernel
theorem dX7_sheet_52 : decode cX7_sheet 52 = .ok (.ifCond .le 16, 3) := by decide +kernel
theorem dX7_sheet_55 : decode cX7_sheet 55 = .ok (.iload_n 3, 1) := by decide +kernel
theorem dX7_sheet_56 : decode cX7_sheet 56 = .ok (.bipush 24, 2) := by decide +kernel
theorem dX7_sheet_58 : decode cX7_sheet 58 = .ok (.if_icmp .le 10, 3) := by decide +kernel
theorem dX7_sheet_61 : decode cX7_sheet 61 = .ok (.aload_n 0, 1) := by decide +kernel
theorem dX7_sheet_62 : decode cX7_sheet 62 = .ok (.ldc 125, 2) := by decide +kernel
theorem dX7_sheet_64 : decode cX7_sheet 64 = .ok (.invokevirtual 126, 3) := by decide +kernel
theorem dX7_sheet_67 : decode cX7_sheet 67 = .ok (.ireturn, 1) := by decide +kernel
theorem dX7_sheet_68 : decode cX7_sheet 68 = .ok (.aload_n 0, 1) := by decide +kernel
theorem dX7_sheet_69 : decode cX7_sheet 69 = .ok (.getfield 22, 3) := by decide +kernel
theorem dX7_sheet_72 : decode cX7_sheet 72 = .ok (.iload_n 1, 1) := by decide +kernel
theorem dX7_sheet_73 : decode cX7_sheet 73 = .ok (.iload_n 2, 1) := by decide +kernel
theorem dX7_sheet_74 : decode cX7_sheet 74 = .ok (.iastore, 1) := by decide +kernel
theorem dX7_sheet_75 : decode cX7_sheet 75 = .ok (.aload_n 0, 1) := by decide +kernel
theorem dX7_sheet_76 : decode cX7_sheet 76 = .ok (.getfield 25, 3) := by decide +kernel
theorem dX7_sheet_79 : decode cX7_sheet 79 = .ok (.iload_n 1, 1) := by decide +kernel
theorem dX7_sheet_80 : decode cX7_sheet 80 = .ok (.iload_n 2, 1) := by decide +kernel
theorem dX7_sheet_81 : decode cX7_sheet 81 = .ok (.ifCond .ne 7, 3) := by decide +kernel
theorem dX7_sheet_84 : decode cX7_sheet 84 = .ok (.iconst 0, 1) := by decide +kernel
theorem dX7_sheet_85 : decode cX7_sheet 85 = .ok (.goto 4, 3) := by decide +kernel
theorem dX7_sheet_88 : decode cX7_sheet 88 = .ok (.iload_n 3, 1) := by decide +kernel
theorem dX7_sheet_89 : decode cX7_sheet 89 = .ok (.iastore, 1) := by decide +kernel
theorem dX7_sheet_90 : decode cX7_sheet 90 = .ok (.iconst 0, 1) := by decide +kernel
theorem dX7_sheet_91 : decode cX7_sheet 91 = .ok (.istore 4, 2) := by decide +kernel
theorem dX7_sheet_93 : decode cX7_sheet 93 = .ok (.iload 4, 2) := by decide +kernel
theorem dX7_sheet_95 : decode cX7_sheet 95 = .ok (.bipush 24, 2) := by decide +kernel
theorem dX7_sheet_97 : decode cX7_sheet 97 = .ok (.if_icmp .ge 22, 3) := by decide +kernel
theorem dX7_sheet_100 : decode cX7_sheet 100 = .ok (.aload_n 0, 1) := by decide +kernel
theorem dX7_sheet_101 : decode cX7_sheet 101 = .ok (.getfield 28, 3) := by decide +kernel
theorem dX7_sheet_104 : decode cX7_sheet 104 = .ok (.bipush 24, 2) := by decide +kernel
theorem dX7_sheet_106 : decode cX7_sheet 106 = .ok (.iload_n 1, 1) := by decide +kernel
theorem dX7_sheet_107 : decode cX7_sheet 107 = .ok (.imul, 1) := by decide +kernel
theorem dX7_sheet_108 : decode cX7_sheet 108 = .ok (.iload 4, 2) := by decide +kernel
theorem dX7_sheet_110 : decode cX7_sheet 110 = .ok (.iadd, 1) := by decide +kernel
theorem dX7_sheet_111 : decode cX7_sheet 111 = .ok (.iconst 0, 1) := by decide +kernel
theorem dX7_sheet_112 : decode cX7_sheet 112 = .ok (.iastore, 1) := by decide +kernel
theorem dX7_sheet_113 : decode cX7_sheet 113 = .ok (.iinc 4 1, 3) := by decide +kernel
theorem dX7_sheet_116 : decode cX7_sheet 116 = .ok (.goto (-23), 3) := by decide +kernel
theorem dX7_sheet_119 : decode cX7_sheet 119 = .ok (.iconst 1, 1) := by decide +kernel
theorem dX7_sheet_120 : decode cX7_sheet 120 = .ok (.ireturn, 1) := by decide +kernel
theorem dX7_notThere_0 : decode cX7_notThere 0 = .ok (.iload_n 1, 1) := by decide +kernel
theorem dX7_notThere_1 : decode cX7_notThere 1 = .ok (.invokestatic 256, 3) := by decide +kernel
theorem dX7_notThere_4 : decode cX7_notThere 4 = .ok (.ifCond .ne 8, 3) := by decide +kernel
theorem dX7_notThere_7 : decode cX7_notThere 7 = .ok (.ldc 125, 2) := by decide +kernel
theorem dX7_notThere_9 : decode cX7_notThere 9 = .ok (.goto 18, 3) := by decide +kernel
theorem dX7_notThere_12 : decode cX7_notThere 12 = .ok (.aload_n 0, 1) := by decide +kernel
theorem dX7_notThere_13 : decode cX7_notThere 13 = .ok (.getfield 22, 3) := by decide +kernel
theorem dX7_notThere_16 : decode cX7_notThere 16 = .ok (.iload_n 1, 1) := by decide +kernel
theorem dX7_notThere_17 : decode cX7_notThere 17 = .ok (.iaload, 1) := by decide +kernel
theorem dX7_notThere_18 : decode cX7_notThere 18 = .ok (.ifCond .ne 8, 3) := by decide +kernel
theorem dX7_notThere_21 : decode cX7_notThere 21 = .ok (.ldc 248, 2) := by decide +kernel
theorem dX7_notThere_23 : decode cX7_notThere 23 = .ok (.goto 4, 3) := by decide +kernel
theorem dX7_notThere_26 : decode cX7_notThere 26 = .ok (.iconst 0, 1) := by decide +kernel
theorem dX7_notThere_27 : decode cX7_notThere 27 = .ok (.ireturn, 1) := by decide +kernel
theorem dX7_put_0 : decode cX7_put 0 = .ok (.aload_n 0, 1) := by decide +kernel
theorem dX7_put_1 : decode cX7_put 1 = .ok (.iload_n 1, 1) := by decide +kernel
theorem dX7_put_2 : decode cX7_put 2 = .ok (.invokevirtual 302, 3) := by decide +kernel
theorem dX7_put_5 : decode cX7_put 5 = .ok (.istore 4, 2) := by decide +kernel
theorem dX7_put_7 : decode cX7_put 7 = .ok (.iload 4, 2) := by decide +kernel
theorem dX7_put_9 : decode cX7_put 9 = .ok (.ifCond .ne 24, 3) := by decide +kernel
theorem dX7_put_12 : decode cX7_put 12 = .ok (.iload_n 2, 1) := by decide +kernel
theorem dX7_put_13 : decode cX7_put 13 = .ok (.iconst 0, 1) := by decide +kernel
theorem dX7_put_14 : decode cX7_put 14 = .ok (.aload_n 0, 1) := by decide +kernel
theorem dX7_put_15 : decode cX7_put 15 = .ok (.getfield 25, 3) := by decide +kernel
theorem dX7_put_18 : decode cX7_put 18 = .ok (.iload_n 1, 1) := by decide +kernel
theorem dX7_put_19 : decode cX7_put 19 = .ok (.iaload, 1) := by decide +kernel
theorem dX7_put_20 : decode cX7_put 20 = .ok (.iconst 1, 1) := by decide +kernel
theorem dX7_put_21 : decode cX7_put 21 = .ok (.isub, 1) := by decide +kernel
theorem dX7_put_22 : decode cX7_put 22 = .ok (.invokestatic 61, 3) := by decide +kernel
theorem dX7_put_25 : decode cX7_put 25 = .ok (.ifCond .ne 8, 3) := by decide +kernel
theorem dX7_put_28 : decode cX7_put 28 = .ok (.ldc 125, 2) := by decide +kernel
theorem dX7_put_30 : decode cX7_put 30 = .ok (.goto 5, 3) := by decide +kernel
theorem dX7_put_33 : decode cX7_put 33 = .ok (.iload 4, 2) := by decide +kernel
theorem dX7_put_35 : decode cX7_put 35 = .ok (.istore 4, 2) := by decide +kernel
theorem dX7_put_37 : decode cX7_put 37 = .ok (.iload 4, 2) := by decide +kernel
theorem dX7_put_39 : decode cX7_put 39 = .ok (.ifCond .eq 10, 3) := by decide +kernel
theorem dX7_put_42 : decode cX7_put 42 = .ok (.aload_n 0, 1) := by decide +kernel
theorem dX7_put_43 : decode cX7_put 43 = .ok (.iload 4, 2) := by decide +kernel
theorem dX7_put_45 : decode cX7_put 45 = .ok (.invokevirtual 126, 3) := by decide +kernel
theorem dX7_put_48 : decode cX7_put 48 = .ok (.ireturn, 1) := by decide +kernel
theorem dX7_put_49 : decode cX7_put 49 = .ok (.aload_n 0, 1) := by decide +kernel
theorem dX7_put_50 : decode cX7_put 50 = .ok (.getfield 28, 3) := by decide +kernel
theorem dX7_put_53 : decode cX7_put 53 = .ok (.bipush 24, 2) := by decide +kernel
theorem dX7_put_55 : decode cX7_put 55 = .ok (.iload_n 1, 1) := by decide +kernel
theorem dX7_put_56 : decode cX7_put 56 = .ok (.imul, 1) := by decide +kernel
theorem dX7_put_57 : decode cX7_put 57 = .ok (.iload_n 2, 1) := by decide +kernel
theorem dX7_put_58 : decode cX7_put 58 = .ok (.iadd, 1) := by decide +kernel
theorem dX7_put_59 : decode cX7_put 59 = .ok (.aload_n 0, 1) := by decide +kernel
theorem dX7_put_60 : decode cX7_put 60 = .ok (.getfield 22, 3) := by decide +kernel
theorem dX7_put_63 : decode cX7_put 63 = .ok (.iload_n 1, 1) := by decide +kernel
theorem dX7_put_64 : decode cX7_put 64 = .ok (.iaload, 1) := by decide +kernel
theorem dX7_put_65 : decode cX7_put 65 = .ok (.bipush 8, 2) := by decide +kernel
theorem dX7_put_67 : decode cX7_put 67 = .ok (.if_icmp .ne 8, 3) := by decide +kernel
theorem dX7_put_70 : decode cX7_put 70 = .ok (.iload_n 3, 1) := by decide +kernel
theorem dX7_put_71 : decode cX7_put 71 = .ok (.i2b, 1) := by decide +kernel
theorem dX7_put_72 : decode cX7_put 72 = .ok (.goto 20, 3) := by decide +kernel
theorem dX7_put_75 : decode cX7_put 75 = .ok (.aload_n 0, 1) := by decide +kernel
theorem dX7_put_76 : decode cX7_put 76 = .ok (.getfield 22, 3) := by decide +kernel
theorem dX7_put_79 : decode cX7_put 79 = .ok (.iload_n 1, 1) := by decide +kernel
theorem dX7_put_80 : decode cX7_put 80 = .ok (.iaload, 1) := by decide +kernel
theorem dX7_put_81 : decode cX7_put 81 = .ok (.bipush 16, 2) := by decide +kernel
theorem dX7_put_83 : decode cX7_put 83 = .ok (.if_icmp .ne 8, 3) := by decide +kernel
theorem dX7_put_86 : decode cX7_put 86 = .ok (.iload_n 3, 1) := by decide +kernel
theorem dX7_put_87 : decode cX7_put 87 = .ok (.i2s, 1) := by decide +kernel
theorem dX7_put_88 : decode cX7_put 88 = .ok (.goto 4, 3) := by decide +kernel
theorem dX7_put_91 : decode cX7_put 91 = .ok (.iload_n 3, 1) := by decide +kernel
theorem dX7_put_92 : decode cX7_put 92 = .ok (.iastore, 1) := by decide +kernel
theorem dX7_put_93 : decode cX7_put 93 = .ok (.iconst 1, 1) := by decide +kernel
theorem dX7_put_94 : decode cX7_put 94 = .ok (.ireturn, 1) := by decide +kernel
theorem dX7_notMoved_0 : decode cX7_notMoved 0 = .ok (.iload_n 1, 1) := by decide +kernel
theorem dX7_notMoved_1 : decode cX7_notMoved 1 = .ok (.invokestatic 256, 3) := by decide +kernel
theorem dX7_notMoved_4 : decode cX7_notMoved 4 = .ok (.ifCond .eq 10, 3) := by decide +kernel
theorem dX7_notMoved_7 : decode cX7_notMoved 7 = .ok (.iload_n 3, 1) := by decide +kernel
theorem dX7_notMoved_8 : decode cX7_notMoved 8 = .ok (.invokestatic 256, 3) := by decide +kernel
theorem dX7_notMoved_11 : decode cX7_notMoved 11 = .ok (.ifCond .ne 6, 3) := by decide +kernel
theorem dX7_notMoved_14 : decode cX7_notMoved 14 = .ok (.ldc 125, 2) := by decide +kernel
theorem dX7_notMoved_16 : decode cX7_notMoved 16 = .ok (.ireturn, 1) := by decide +kernel
theorem dX7_notMoved_17 : decode cX7_notMoved 17 = .ok (.aload_n 0, 1) := by decide +kernel
theorem dX7_notMoved_18 : decode cX7_notMoved 18 = .ok (.getfield 22, 3) := by decide +kernel
theorem dX7_notMoved_21 : decode cX7_notMoved 21 = .ok (.iload_n 1, 1) := by decide +kernel
theorem dX7_notMoved_22 : decode cX7_notMoved 22 = .ok (.iaload, 1) := by decide +kernel
theorem dX7_notMoved_23 : decode cX7_notMoved 23 = .ok (.ifCond .eq 12, 3) := by decide +kernel
theorem dX7_notMoved_26 : decode cX7_notMoved 26 = .ok (.aload_n 0, 1) := by decide +kernel
theorem dX7_notMoved_27 : decode cX7_notMoved 27 = .ok (.getfield 22, 3) := by decide +kernel
theorem dX7_notMoved_30 : decode cX7_notMoved 30 = .ok (.iload_n 3, 1) := by decide +kernel
theorem dX7_notMoved_31 : decode cX7_notMoved 31 = .ok (.iaload, 1) := by decide +kernel
theorem dX7_notMoved_32 : decode cX7_notMoved 32 = .ok (.ifCond .ne 6, 3) := by decide +kernel
theorem dX7_notMoved_35 : decode cX7_notMoved 35 = .ok (.ldc 248, 2) := by decide +kernel
theorem dX7_notMoved_37 : decode cX7_notMoved 37 = .ok (.ireturn, 1) := by decide +kernel
theorem dX7_notMoved_38 : decode cX7_notMoved 38 = .ok (.aload_n 0, 1) := by decide +kernel
theorem dX7_notMoved_39 : decode cX7_notMoved 39 = .ok (.getfield 22, 3) := by decide +kernel
theorem dX7_notMoved_42 : decode cX7_notMoved 42 = .ok (.iload_n 1, 1) := by decide +kernel
theorem dX7_notMoved_43 : decode cX7_notMoved 43 = .ok (.iaload, 1) := by decide +kernel
theorem dX7_notMoved_44 : decode cX7_notMoved 44 = .ok (.aload_n 0, 1) := by decide +kernel
theorem dX7_notMoved_45 : decode cX7_notMoved 45 = .ok (.getfield 22, 3) := by decide +kernel
theorem dX7_notMoved_48 : decode cX7_notMoved 48 = .ok (.iload_n 3, 1) := by decide +kernel
theorem dX7_notMoved_49 : decode cX7_notMoved 49 = .ok (.iaload, 1) := by decide +kernel
theorem dX7_notMoved_50 : decode cX7_notMoved 50 = .ok (.if_icmp .eq 6, 3) := by decide +kernel
theorem dX7_notMoved_53 : decode cX7_notMoved 53 = .ok (.ldc 140, 2) := by decide +kernel
theorem dX7_notMoved_55 : decode cX7_notMoved 55 = .ok (.ireturn, 1) := by decide +kernel
theorem dX7_notMoved_56 : decode cX7_notMoved 56 = .ok (.iload 5, 2) := by decide +kernel
theorem dX7_notMoved_58 : decode cX7_notMoved 58 = .ok (.ifCond .lt 43, 3) := by decide +kernel
theorem dX7_notMoved_61 : decode cX7_notMoved 61 = .ok (.iload_n 2, 1) := by decide +kernel
theorem dX7_notMoved_62 : decode cX7_notMoved 62 = .ok (.ifCond .lt 39, 3) := by decide +kernel
theorem dX7_notMoved_65 : decode cX7_notMoved 65 = .ok (.iload 4, 2) := by decide +kernel
theorem dX7_notMoved_67 : decode cX7_notMoved 67 = .ok (.ifCond .lt 34, 3) := by decide +kernel
theorem dX7_notMoved_70 : decode cX7_notMoved 70 = .ok (.iload 5, 2) := by decide +kernel
theorem dX7_notMoved_72 : decode cX7_notMoved 72 = .ok (.aload_n 0, 1) := by decide +kernel
theorem dX7_notMoved_73 : decode cX7_notMoved 73 = .ok (.getfield 25, 3) := by decide +kernel
theorem dX7_notMoved_76 : decode cX7_notMoved 76 = .ok (.iload_n 1, 1) := by decide +kernel
theorem dX7_notMoved_77 : decode cX7_notMoved 77 = .ok (.iaload, 1) := by decide +kernel
theorem dX7_notMoved_78 : decode cX7_notMoved 78 = .ok (.iload_n 2, 1) := by decide +kernel
theorem dX7_notMoved_79 : decode cX7_notMoved 79 = .ok (.isub, 1) := by decide +kernel
theorem dX7_notMoved_80 : decode cX7_notMoved 80 = .ok (.if_icmp .gt 21, 3) := by decide +kernel
theorem dX7_notMoved_83 : decode cX7_notMoved 83 = .ok (.iload 5, 2) := by decide +kernel
theorem dX7_notMoved_85 : decode cX7_notMoved 85 = .ok (.aload_n 0, 1) := by decide +kernel
theorem dX7_notMoved_86 : decode cX7_notMoved 86 = .ok (.getfield 25, 3) := by decide +kernel
theorem dX7_notMoved_89 : decode cX7_notMoved 89 = .ok (.iload_n 3, 1) := by decide +kernel
theorem dX7_notMoved_90 : decode cX7_notMoved 90 = .ok (.iaload, 1) := by decide +kernel
theorem dX7_notMoved_91 : decode cX7_notMoved 91 = .ok (.iload 4, 2) := by decide +kernel
theorem dX7_notMoved_93 : decode cX7_notMoved 93 = .ok (.isub, 1) := by decide +kernel
theorem dX7_notMoved_94 : decode cX7_notMoved 94 = .ok (.if_icmp .gt 7, 3) := by decide +kernel
theorem dX7_notMoved_97 : decode cX7_notMoved 97 = .ok (.iconst 1, 1) := by decide +kernel
theorem dX7_notMoved_98 : decode cX7_notMoved 98 = .ok (.goto 4, 3) := by decide +kernel
theorem dX7_notMoved_101 : decode cX7_notMoved 101 = .ok (.iconst 0, 1) := by decide +kernel
theorem dX7_notMoved_102 : decode cX7_notMoved 102 = .ok (.istore 6, 2) := by decide +kernel
theorem dX7_notMoved_104 : decode cX7_notMoved 104 = .ok (.iload 6, 2) := by decide +kernel
theorem dX7_notMoved_106 : decode cX7_notMoved 106 = .ok (.ifCond .eq 7, 3) := by decide +kernel
theorem dX7_notMoved_109 : decode cX7_notMoved 109 = .ok (.iconst 0, 1) := by decide +kernel
theorem dX7_notMoved_110 : decode cX7_notMoved 110 = .ok (.goto 5, 3) := by decide +kernel
theorem dX7_notMoved_113 : decode cX7_notMoved 113 = .ok (.ldc 125, 2) := by decide +kernel
theorem dX7_notMoved_115 : decode cX7_notMoved 115 = .ok (.ireturn, 1) := by decide +kernel
theorem dX7_move_0 : decode cX7_move 0 = .ok (.aload_n 0, 1) := by decide +kernel
theorem dX7_move_1 : decode cX7_move 1 = .ok (.iload_n 1, 1) := by decide +kernel
theorem dX7_move_2 : decode cX7_move 2 = .ok (.iload_n 2, 1) := by decide +kernel
theorem dX7_move_3 : decode cX7_move 3 = .ok (.iload_n 3, 1) := by decide +kernel
theorem dX7_move_4 : decode cX7_move 4 = .ok (.iload 4, 2) := by decide +kernel
theorem dX7_move_6 : decode cX7_move 6 = .ok (.iload 5, 2) := by decide +kernel
theorem dX7_move_8 : decode cX7_move 8 = .ok (.invokevirtual 305, 3) := by decide +kernel
theorem dX7_move_11 : decode cX7_move 11 = .ok (.istore 6, 2) := by decide +kernel
theorem dX7_move_13 : decode cX7_move 13 = .ok (.iload 6, 2) := by decide +kernel
theorem dX7_move_15 : decode cX7_move 15 = .ok (.ifCond .eq 10, 3) := by decide +kernel
theorem dX7_move_18 : decode cX7_move 18 = .ok (.aload_n 0, 1) := by decide +kernel
theorem dX7_move_19 : decode cX7_move 19 = .ok (.iload 6, 2) := by decide +kernel
theorem dX7_move_21 : decode cX7_move 21 = .ok (.invokevirtual 126, 3) := by decide +kernel
theorem dX7_move_24 : decode cX7_move 24 = .ok (.ireturn, 1) := by decide +kernel
theorem dX7_move_25 : decode cX7_move 25 = .ok (.iconst 0, 1) := by decide +kernel
theorem dX7_move_26 : decode cX7_move 26 = .ok (.istore 7, 2) := by decide +kernel
theorem dX7_move_28 : decode cX7_move 28 = .ok (.iload 7, 2) := by decide +kernel
theorem dX7_move_30 : decode cX7_move 30 = .ok (.iload 5, 2) := by decide +kernel
theorem dX7_move_32 : decode cX7_move 32 = .ok (.if_icmp .ge 58, 3) := by decide +kernel
theorem dX7_move_35 : decode cX7_move 35 = .ok (.iload_n 2, 1) := by decide +kernel
theorem dX7_move_36 : decode cX7_move 36 = .ok (.iload 4, 2) := by decide +kernel
theorem dX7_move_38 : decode cX7_move 38 = .ok (.if_icmp .ge 13, 3) := by decide +kernel
theorem dX7_move_41 : decode cX7_move 41 = .ok (.iload 5, 2) := by decide +kernel
theorem dX7_move_43 : decode cX7_move 43 = .ok (.iconst 1, 1) := by decide +kernel
theorem dX7_move_44 : decode cX7_move 44 = .ok (.isub, 1) := by decide +kernel
theorem dX7_move_45 : decode cX7_move 45 = .ok (.iload 7, 2) := by decide +kernel
theorem dX7_move_47 : decode cX7_move 47 = .ok (.isub, 1) := by decide +kernel
theorem dX7_move_48 : decode cX7_move 48 = .ok (.goto 5, 3) := by decide +kernel
theorem dX7_move_51 : decode cX7_move 51 = .ok (.iload 7, 2) := by decide +kernel
theorem dX7_move_53 : decode cX7_move 53 = .ok (.istore 8, 2) := by decide +kernel
theorem dX7_move_55 : decode cX7_move 55 = .ok (.aload_n 0, 1) := by decide +kernel
theorem dX7_move_56 : decode cX7_move 56 = .ok (.getfield 28, 3) := by decide +kernel
theorem dX7_move_59 : decode cX7_move 59 = .ok (.bipush 24, 2) := by decide +kernel
theorem dX7_move_61 : decode cX7_move 61 = .ok (.iload_n 3, 1) := by decide +kernel
theorem dX7_move_62 : decode cX7_move 62 = .ok (.imul, 1) := by decide +kernel
theorem dX7_move_63 : decode cX7_move 63 = .ok (.iload 4, 2) := by decide +kernel
theorem dX7_move_65 : decode cX7_move 65 = .ok (.iadd, 1) := by decide +kernel
theorem dX7_move_66 : decode cX7_move 66 = .ok (.iload 8, 2) := by decide +kernel
theorem dX7_move_68 : decode cX7_move 68 = .ok (.iadd, 1) := by decide +kernel
theorem dX7_move_69 : decode cX7_move 69 = .ok (.aload_n 0, 1) := by decide +kernel
theorem dX7_move_70 : decode cX7_move 70 = .ok (.getfield 28, 3) := by decide +kernel
theorem dX7_move_73 : decode cX7_move 73 = .ok (.bipush 24, 2) := by decide +kernel
theorem dX7_move_75 : decode cX7_move 75 = .ok (.iload_n 1, 1) := by decide +kernel
theorem dX7_move_76 : decode cX7_move 76 = .ok (.imul, 1) := by decide +kernel
theorem dX7_move_77 : decode cX7_move 77 = .ok (.iload_n 2, 1) := by decide +kernel
theorem dX7_move_78 : decode cX7_move 78 = .ok (.iadd, 1) := by decide +kernel
theorem dX7_move_79 : decode cX7_move 79 = .ok (.iload 8, 2) := by decide +kernel
theorem dX7_move_81 : decode cX7_move 81 = .ok (.iadd, 1) := by decide +kernel
theorem dX7_move_82 : decode cX7_move 82 = .ok (.iaload, 1) := by decide +kernel
theorem dX7_move_83 : decode cX7_move 83 = .ok (.iastore, 1) := by decide +kernel
theorem dX7_move_84 : decode cX7_move 84 = .ok (.iinc 7 1, 3) := by decide +kernel
theorem dX7_move_87 : decode cX7_move 87 = .ok (.goto (-59), 3) := by decide +kernel
theorem dX7_move_90 : decode cX7_move 90 = .ok (.iload 5, 2) := by decide +kernel
theorem dX7_move_92 : decode cX7_move 92 = .ok (.ireturn, 1) := by decide +kernel
theorem dX7_tells_0 : decode cX7_tells 0 = .ok (.aload_n 0, 1) := by decide +kernel
theorem dX7_tells_1 : decode cX7_tells 1 = .ok (.iload_n 1, 1) := by decide +kernel
theorem dX7_tells_2 : decode cX7_tells 2 = .ok (.invokevirtual 302, 3) := by decide +kernel
theorem dX7_tells_5 : decode cX7_tells 5 = .ok (.istore_n 2, 1) := by decide +kernel
theorem dX7_tells_6 : decode cX7_tells 6 = .ok (.iload_n 2, 1) := by decide +kernel
theorem dX7_tells_7 : decode cX7_tells 7 = .ok (.ifCond .eq 9, 3) := by decide +kernel
theorem dX7_tells_10 : decode cX7_tells 10 = .ok (.aload_n 0, 1) := by decide +kernel
theorem dX7_tells_11 : decode cX7_tells 11 = .ok (.iload_n 2, 1) := by decide +kernel
theorem dX7_tells_12 : decode cX7_tells 12 = .ok (.invokevirtual 126, 3) := by decide +kernel
theorem dX7_tells_15 : decode cX7_tells 15 = .ok (.ireturn, 1) := by decide +kernel
theorem dX7_tells_16 : decode cX7_tells 16 = .ok (.iconst 0, 1) := by decide +kernel
theorem dX7_tells_17 : decode cX7_tells 17 = .ok (.istore_n 3, 1) := by decide +kernel
theorem dX7_tells_18 : decode cX7_tells 18 = .ok (.iload_n 3, 1) := by decide +kernel
theorem dX7_tells_19 : decode cX7_tells 19 = .ok (.aload_n 0, 1) := by decide +kernel
theorem dX7_tells_20 : decode cX7_tells 20 = .ok (.getfield 25, 3) := by decide +kernel
theorem dX7_tells_23 : decode cX7_tells 23 = .ok (.iload_n 1, 1) := by decide +kernel
theorem dX7_tells_24 : decode cX7_tells 24 = .ok (.iaload, 1) := by decide +kernel
theorem dX7_tells_25 : decode cX7_tells 25 = .ok (.if_icmp .ge 57, 3) := by decide +kernel
theorem dX7_tells_28 : decode cX7_tells 28 = .ok (.iload_n 3, 1) := by decide +kernel
theorem dX7_tells_29 : decode cX7_tells 29 = .ok (.aload_n 0, 1) := by decide +kernel
theorem dX7_tells_30 : decode cX7_tells 30 = .ok (.getfield 9, 3) := by decide +kernel
theorem dX7_tells_33 : decode cX7_tells 33 = .ok (.iconst 2, 1) := by decide +kernel
theorem dX7_tells_34 : decode cX7_tells 34 = .ok (.iaload, 1) := by decide +kernel
theorem dX7_tells_35 : decode cX7_tells 35 = .ok (.if_icmp .ge 47, 3) := by decide +kernel
theorem dX7_tells_38 : decode cX7_tells 38 = .ok (.aload_n 0, 1) := by decide +kernel
theorem dX7_tells_39 : decode cX7_tells 39 = .ok (.getfield 28, 3) := by decide +kernel
theorem dX7_tells_42 : decode cX7_tells 42 = .ok (.bipush 24, 2) := by decide +kernel
theorem dX7_tells_44 : decode cX7_tells 44 = .ok (.iload_n 1, 1) := by decide +kernel
theorem dX7_tells_45 : decode cX7_tells 45 = .ok (.imul, 1) := by decide +kernel
theorem dX7_tells_46 : decode cX7_tells 46 = .ok (.iload_n 3, 1) := by decide +kernel
theorem dX7_tells_47 : decode cX7_tells 47 = .ok (.iadd, 1) := by decide +kernel
theorem dX7_tells_48 : decode cX7_tells 48 = .ok (.iaload, 1) := by decide +kernel
theorem dX7_tells_49 : decode cX7_tells 49 = .ok (.bipush (-20), 2) := by decide +kernel
theorem dX7_tells_51 : decode cX7_tells 51 = .ok (.bipush 20, 2) := by decide +kernel
theorem dX7_tells_53 : decode cX7_tells 53 = .ok (.invokestatic 61, 3) := by decide +kernel
theorem dX7_tells_56 : decode cX7_tells 56 = .ok (.ifCond .eq 26, 3) := by decide +kernel
theorem dX7_tells_59 : decode cX7_tells 59 = .ok (.aload_n 0, 1) := by decide +kernel
theorem dX7_tells_60 : decode cX7_tells 60 = .ok (.iload_n 3, 1) := by decide +kernel
theorem dX7_tells_61 : decode cX7_tells 61 = .ok (.iconst 4, 1) := by decide +kernel
theorem dX7_tells_62 : decode cX7_tells 62 = .ok (.aload_n 0, 1) := by decide +kernel
theorem dX7_tells_63 : decode cX7_tells 63 = .ok (.getfield 28, 3) := by decide +kernel
theorem dX7_tells_66 : decode cX7_tells 66 = .ok (.bipush 24, 2) := by decide +kernel
theorem dX7_tells_68 : decode cX7_tells 68 = .ok (.iload_n 1, 1) := by decide +kernel
theorem dX7_tells_69 : decode cX7_tells 69 = .ok (.imul, 1) := by decide +kernel
theorem dX7_tells_70 : decode cX7_tells 70 = .ok (.iload_n 3, 1) := by decide +kernel
theorem dX7_tells_71 : decode cX7_tells 71 = .ok (.iadd, 1) := by decide +kernel
theorem dX7_tells_72 : decode cX7_tells 72 = .ok (.iaload, 1) := by decide +kernel
theorem dX7_tells_73 : decode cX7_tells 73 = .ok (.invokevirtual 130, 3) := by decide +kernel
theorem dX7_tells_76 : decode cX7_tells 76 = .ok (.iinc 3 1, 3) := by decide +kernel
theorem dX7_tells_79 : decode cX7_tells 79 = .ok (.goto (-61), 3) := by decide +kernel
theorem dX7_tells_82 : decode cX7_tells 82 = .ok (.iload_n 3, 1) := by decide +kernel
theorem dX7_tells_83 : decode cX7_tells 83 = .ok (.ireturn, 1) := by decide +kernel
theorem dX7_judge_0 : decode cX7_judge 0 = .ok (.aload_n 0, 1) := by decide +kernel
theorem dX7_judge_1 : decode cX7_judge 1 = .ok (.iload_n 1, 1) := by decide +kernel
theorem dX7_judge_2 : decode cX7_judge 2 = .ok (.invokevirtual 302, 3) := by decide +kernel
theorem dX7_judge_5 : decode cX7_judge 5 = .ok (.istore_n 2, 1) := by decide +kernel
theorem dX7_judge_6 : decode cX7_judge 6 = .ok (.iload_n 2, 1) := by decide +kernel
theorem dX7_judge_7 : decode cX7_judge 7 = .ok (.ifCond .eq 9, 3) := by decide +kernel
theorem dX7_judge_10 : decode cX7_judge 10 = .ok (.aload_n 0, 1) := by decide +kernel
theorem dX7_judge_11 : decode cX7_judge 11 = .ok (.iload_n 2, 1) := by decide +kernel
theorem dX7_judge_12 : decode cX7_judge 12 = .ok (.invokevirtual 126, 3) := by decide +kernel
theorem dX7_judge_15 : decode cX7_judge 15 = .ok (.ireturn, 1) := by decide +kernel
theorem dX7_judge_16 : decode cX7_judge 16 = .ok (.iconst 0, 1) := by decide +kernel
theorem dX7_judge_17 : decode cX7_judge 17 = .ok (.istore_n 3, 1) := by decide +kernel
theorem dX7_judge_18 : decode cX7_judge 18 = .ok (.iload_n 3, 1) := by decide +kernel
theorem dX7_judge_19 : decode cX7_judge 19 = .ok (.aload_n 0, 1) := by decide +kernel
theorem dX7_judge_20 : decode cX7_judge 20 = .ok (.getfield 25, 3) := by decide +kernel
theorem dX7_judge_23 : decode cX7_judge 23 = .ok (.iload_n 1, 1) := by decide +kernel
theorem dX7_judge_24 : decode cX7_judge 24 = .ok (.iaload, 1) := by decide +kernel
theorem dX7_judge_25 : decode cX7_judge 25 = .ok (.if_icmp .ge 39, 3) := by decide +kernel
theorem dX7_judge_28 : decode cX7_judge 28 = .ok (.iload_n 3, 1) := by decide +kernel
theorem dX7_judge_29 : decode cX7_judge 29 = .ok (.aload_n 0, 1) := by decide +kernel
theorem dX7_judge_30 : decode cX7_judge 30 = .ok (.getfield 9, 3) := by decide +kernel
theorem dX7_judge_33 : decode cX7_judge 33 = .ok (.iconst 2, 1) := by decide +kernel
theorem dX7_judge_34 : decode cX7_judge 34 = .ok (.iaload, 1) := by decide +kernel
theorem dX7_judge_35 : decode cX7_judge 35 = .ok (.if_icmp .ge 29, 3) := by decide +kernel
theorem dX7_judge_38 : decode cX7_judge 38 = .ok (.aload_n 0, 1) := by decide +kernel
theorem dX7_judge_39 : decode cX7_judge 39 = .ok (.getfield 28, 3) := by decide +kernel
theorem dX7_judge_42 : decode cX7_judge 42 = .ok (.bipush 24, 2) := by decide +kernel
theorem dX7_judge_44 : decode cX7_judge 44 = .ok (.iload_n 1, 1) := by decide +kernel
theorem dX7_judge_45 : decode cX7_judge 45 = .ok (.imul, 1) := by decide +kernel
theorem dX7_judge_46 : decode cX7_judge 46 = .ok (.iload_n 3, 1) := by decide +kernel
theorem dX7_judge_47 : decode cX7_judge 47 = .ok (.iadd, 1) := by decide +kernel
theorem dX7_judge_48 : decode cX7_judge 48 = .ok (.iaload, 1) := by decide +kernel
theorem dX7_judge_49 : decode cX7_judge 49 = .ok (.aload_n 0, 1) := by decide +kernel
theorem dX7_judge_50 : decode cX7_judge 50 = .ok (.iload_n 3, 1) := by decide +kernel
theorem dX7_judge_51 : decode cX7_judge 51 = .ok (.iconst 4, 1) := by decide +kernel
theorem dX7_judge_52 : decode cX7_judge 52 = .ok (.invokevirtual 65, 3) := by decide +kernel
theorem dX7_judge_55 : decode cX7_judge 55 = .ok (.if_icmp .ne 9, 3) := by decide +kernel
theorem dX7_judge_58 : decode cX7_judge 58 = .ok (.iinc 3 1, 3) := by decide +kernel
theorem dX7_judge_61 : decode cX7_judge 61 = .ok (.goto (-43), 3) := by decide +kernel
theorem dX7_judge_64 : decode cX7_judge 64 = .ok (.iload_n 3, 1) := by decide +kernel
theorem dX7_judge_65 : decode cX7_judge 65 = .ok (.ireturn, 1) := by decide +kernel
theorem dX7_image_0 : decode cX7_image 0 = .ok (.aload_n 0, 1) := by decide +kernel
theorem dX7_image_1 : decode cX7_image 1 = .ok (.getfield 9, 3) := by decide +kernel
theorem dX7_image_4 : decode cX7_image 4 = .ok (.aload_n 0, 1) := by decide +kernel
theorem dX7_image_5 : decode cX7_image 5 = .ok (.getfield 13, 3) := by decide +kernel
theorem dX7_image_8 : decode cX7_image 8 = .ok (.invokestatic 57, 3) := by decide +kernel
theorem dX7_image_11 : decode cX7_image 11 = .ok (.aload_n 0, 1) := by decide +kernel
theorem dX7_image_12 : decode cX7_image 12 = .ok (.dup, 1) := by decide +kernel
theorem dX7_image_13 : decode cX7_image 13 = .ok (.getfield 309, 3) := by decide +kernel
theorem dX7_image_16 : decode cX7_image 16 = .ok (.iconst 1, 1) := by decide +kernel
theorem dX7_image_17 : decode cX7_image 17 = .ok (.iadd, 1) := by decide +kernel
theorem dX7_image_18 : decode cX7_image 18 = .ok (.putfield 309, 3) := by decide +kernel
theorem dX7_image_21 : decode cX7_image 21 = .ok (.aload_n 0, 1) := by decide +kernel
theorem dX7_image_22 : decode cX7_image 22 = .ok (.getfield 309, 3) := by decide +kernel
theorem dX7_image_25 : decode cX7_image 25 = .ok (.ireturn, 1) := by decide +kernel
theorem dX7_restore_0 : decode cX7_restore 0 = .ok (.aload_n 0, 1) := by decide +kernel
theorem dX7_restore_1 : decode cX7_restore 1 = .ok (.getfield 309, 3) := by decide +kernel
theorem dX7_restore_4 : decode cX7_restore 4 = .ok (.ifCond .ne 10, 3) := by decide +kernel
theorem dX7_restore_7 : decode cX7_restore 7 = .ok (.aload_n 0, 1) := by decide +kernel
theorem dX7_restore_8 : decode cX7_restore 8 = .ok (.ldc 248, 2) := by decide +kernel
theorem dX7_restore_10 : decode cX7_restore 10 = .ok (.invokevirtual 126, 3) := by decide +kernel
theorem dX7_restore_13 : decode cX7_restore 13 = .ok (.ireturn, 1) := by decide +kernel
theorem dX7_restore_14 : decode cX7_restore 14 = .ok (.aload_n 0, 1) := by decide +kernel
theorem dX7_restore_15 : decode cX7_restore 15 = .ok (.getfield 13, 3) := by decide +kernel
theorem dX7_restore_18 : decode cX7_restore 18 = .ok (.aload_n 0, 1) := by decide +kernel
theorem dX7_restore_19 : decode cX7_restore 19 = .ok (.getfield 9, 3) := by decide +kernel
theorem dX7_restore_22 : decode cX7_restore 22 = .ok (.invokestatic 57, 3) := by decide +kernel
theorem dX7_restore_25 : decode cX7_restore 25 = .ok (.aload_n 0, 1) := by decide +kernel
theorem dX7_restore_26 : decode cX7_restore 26 = .ok (.getfield 9, 3) := by decide +kernel
theorem dX7_restore_29 : decode cX7_restore 29 = .ok (.iconst 0, 1) := by decide +kernel
theorem dX7_restore_30 : decode cX7_restore 30 = .ok (.iaload, 1) := by decide +kernel
theorem dX7_restore_31 : decode cX7_restore 31 = .ok (.ireturn, 1) := by decide +kernel
theorem dX7_tell_0 : decode cX7_tell 0 = .ok (.aload_n 0, 1) := by decide +kernel
theorem dX7_tell_1 : decode cX7_tell 1 = .ok (.getfield 9, 3) := by decide +kernel
theorem dX7_tell_4 : decode cX7_tell 4 = .ok (.bipush 7, 2) := by decide +kernel
theorem dX7_tell_6 : decode cX7_tell 6 = .ok (.iaload, 1) := by decide +kernel
theorem dX7_tell_7 : decode cX7_tell 7 = .ok (.bipush 24, 2) := by decide +kernel
theorem dX7_tell_9 : decode cX7_tell 9 = .ok (.if_icmp .ne 10, 3) := by decide +kernel
theorem dX7_tell_12 : decode cX7_tell 12 = .ok (.aload_n 0, 1) := by decide +kernel
theorem dX7_tell_13 : decode cX7_tell 13 = .ok (.ldc 129, 2) := by decide +kernel
theorem dX7_tell_15 : decode cX7_tell 15 = .ok (.invokevirtual 126, 3) := by decide +kernel
theorem dX7_tell_18 : decode cX7_tell 18 = .ok (.ireturn, 1) := by decide +kernel
theorem dX7_tell_19 : decode cX7_tell 19 = .ok (.aload_n 0, 1) := by decide +kernel
theorem dX7_tell_20 : decode cX7_tell 20 = .ok (.getfield 9, 3) := by decide +kernel
theorem dX7_tell_23 : decode cX7_tell 23 = .ok (.bipush 116, 2) := by decide +kernel
theorem dX7_tell_25 : decode cX7_tell 25 = .ok (.aload_n 0, 1) := by decide +kernel
theorem dX7_tell_26 : decode cX7_tell 26 = .ok (.getfield 9, 3) := by decide +kernel
theorem dX7_tell_29 : decode cX7_tell 29 = .ok (.bipush 7, 2) := by decide +kernel
theorem dX7_tell_31 : decode cX7_tell 31 = .ok (.iaload, 1) := by decide +kernel
theorem dX7_tell_32 : decode cX7_tell 32 = .ok (.iadd, 1) := by decide +kernel
theorem dX7_tell_33 : decode cX7_tell 33 = .ok (.iload_n 1, 1) := by decide +kernel
theorem dX7_tell_34 : decode cX7_tell 34 = .ok (.iastore, 1) := by decide +kernel
theorem dX7_tell_35 : decode cX7_tell 35 = .ok (.aload_n 0, 1) := by decide +kernel
theorem dX7_tell_36 : decode cX7_tell 36 = .ok (.getfield 9, 3) := by decide +kernel
theorem dX7_tell_39 : decode cX7_tell 39 = .ok (.bipush 7, 2) := by decide +kernel
theorem dX7_tell_41 : decode cX7_tell 41 = .ok (.dup2, 1) := by decide +kernel
theorem dX7_tell_42 : decode cX7_tell 42 = .ok (.iaload, 1) := by decide +kernel
theorem dX7_tell_43 : decode cX7_tell 43 = .ok (.iconst 1, 1) := by decide +kernel
theorem dX7_tell_44 : decode cX7_tell 44 = .ok (.iadd, 1) := by decide +kernel
theorem dX7_tell_45 : decode cX7_tell 45 = .ok (.iastore, 1) := by decide +kernel
theorem dX7_tell_46 : decode cX7_tell 46 = .ok (.aload_n 0, 1) := by decide +kernel
theorem dX7_tell_47 : decode cX7_tell 47 = .ok (.getfield 9, 3) := by decide +kernel
theorem dX7_tell_50 : decode cX7_tell 50 = .ok (.bipush 7, 2) := by decide +kernel
theorem dX7_tell_52 : decode cX7_tell 52 = .ok (.iaload, 1) := by decide +kernel
theorem dX7_tell_53 : decode cX7_tell 53 = .ok (.ireturn, 1) := by decide +kernel
theorem dX7_check_0 : decode cX7_check 0 = .ok (.aload_n 0, 1) := by decide +kernel
theorem dX7_check_1 : decode cX7_check 1 = .ok (.getfield 9, 3) := by decide +kernel
theorem dX7_check_4 : decode cX7_check 4 = .ok (.bipush 7, 2) := by decide +kernel
theorem dX7_check_6 : decode cX7_check 6 = .ok (.iaload, 1) := by decide +kernel
theorem dX7_check_7 : decode cX7_check 7 = .ok (.istore_n 1, 1) := by decide +kernel
theorem dX7_check_8 : decode cX7_check 8 = .ok (.aload_n 0, 1) := by decide +kernel
theorem dX7_check_9 : decode cX7_check 9 = .ok (.getfield 9, 3) := by decide +kernel
theorem dX7_check_12 : decode cX7_check 12 = .ok (.bipush 7, 2) := by decide +kernel
theorem dX7_check_14 : decode cX7_check 14 = .ok (.iconst 0, 1) := by decide +kernel
theorem dX7_check_15 : decode cX7_check 15 = .ok (.iastore, 1) := by decide +kernel
theorem dX7_check_16 : decode cX7_check 16 = .ok (.iconst 0, 1) := by decide +kernel
theorem dX7_check_17 : decode cX7_check 17 = .ok (.istore_n 2, 1) := by decide +kernel
theorem dX7_check_18 : decode cX7_check 18 = .ok (.iload_n 2, 1) := by decide +kernel
theorem dX7_check_19 : decode cX7_check 19 = .ok (.iload_n 1, 1) := by decide +kernel
theorem dX7_check_20 : decode cX7_check 20 = .ok (.if_icmp .ge 38, 3) := by decide +kernel
theorem dX7_check_23 : decode cX7_check 23 = .ok (.aload_n 0, 1) := by decide +kernel
theorem dX7_check_24 : decode cX7_check 24 = .ok (.iload_n 2, 1) := by decide +kernel
theorem dX7_check_25 : decode cX7_check 25 = .ok (.invokevirtual 134, 3) := by decide +kernel
theorem dX7_check_28 : decode cX7_check 28 = .ok (.ifCond .eq 20, 3) := by decide +kernel
theorem dX7_check_31 : decode cX7_check 31 = .ok (.aload_n 0, 1) := by decide +kernel
theorem dX7_check_32 : decode cX7_check 32 = .ok (.getfield 9, 3) := by decide +kernel
theorem dX7_check_35 : decode cX7_check 35 = .ok (.bipush 116, 2) := by decide +kernel
theorem dX7_check_37 : decode cX7_check 37 = .ok (.iload_n 2, 1) := by decide +kernel
theorem dX7_check_38 : decode cX7_check 38 = .ok (.iadd, 1) := by decide +kernel
theorem dX7_check_39 : decode cX7_check 39 = .ok (.iaload, 1) := by decide +kernel
theorem dX7_check_40 : decode cX7_check 40 = .ok (.aload_n 0, 1) := by decide +kernel
theorem dX7_check_41 : decode cX7_check 41 = .ok (.iload_n 2, 1) := by decide +kernel
theorem dX7_check_42 : decode cX7_check 42 = .ok (.invokevirtual 93, 3) := by decide +kernel
theorem dX7_check_45 : decode cX7_check 45 = .ok (.if_icmp .eq 7, 3) := by decide +kernel
theorem dX7_check_48 : decode cX7_check 48 = .ok (.iconst 1, 1) := by decide +kernel
theorem dX7_check_49 : decode cX7_check 49 = .ok (.iload_n 2, 1) := by decide +kernel
theorem dX7_check_50 : decode cX7_check 50 = .ok (.iadd, 1) := by decide +kernel
theorem dX7_check_51 : decode cX7_check 51 = .ok (.ireturn, 1) := by decide +kernel
theorem dX7_check_52 : decode cX7_check 52 = .ok (.iinc 2 1, 3) := by decide +kernel
theorem dX7_check_55 : decode cX7_check 55 = .ok (.goto (-37), 3) := by decide +kernel
theorem dX7_check_58 : decode cX7_check 58 = .ok (.iconst 0, 1) := by decide +kernel
theorem dX7_check_59 : decode cX7_check 59 = .ok (.ireturn, 1) := by decide +kernel
theorem dX7_count_0 : decode cX7_count 0 = .ok (.iload_n 1, 1) := by decide +kernel
theorem dX7_count_1 : decode cX7_count 1 = .ok (.tableswitch 133 0 10 #[59, 66, 73, 80, 80, 91, 96, 105, 113, 121, 126], 59) := by decide +kernel
theorem dX7_count_60 : decode cX7_count 60 = .ok (.aload_n 0, 1) := by decide +kernel
theorem dX7_count_61 : decode cX7_count 61 = .ok (.getfield 9, 3) := by decide +kernel
theorem dX7_count_64 : decode cX7_count 64 = .ok (.iconst 2, 1) := by decide +kernel
theorem dX7_count_65 : decode cX7_count 65 = .ok (.iaload, 1) := by decide +kernel
theorem dX7_count_66 : decode cX7_count 66 = .ok (.ireturn, 1) := by decide +kernel
theorem dX7_count_67 : decode cX7_count 67 = .ok (.aload_n 0, 1) := by decide +kernel
theorem dX7_count_68 : decode cX7_count 68 = .ok (.getfield 9, 3) := by decide +kernel
theorem dX7_count_71 : decode cX7_count 71 = .ok (.iconst 3, 1) := by decide +kernel
theorem dX7_count_72 : decode cX7_count 72 = .ok (.iaload, 1) := by decide +kernel
theorem dX7_count_73 : decode cX7_count 73 = .ok (.ireturn, 1) := by decide +kernel
theorem dX7_count_74 : decode cX7_count 74 = .ok (.aload_n 0, 1) := by decide +kernel
theorem dX7_count_75 : decode cX7_count 75 = .ok (.getfield 9, 3) := by decide +kernel
theorem dX7_count_78 : decode cX7_count 78 = .ok (.iconst 0, 1) := by decide +kernel
theorem dX7_count_79 : decode cX7_count 79 = .ok (.iaload, 1) := by decide +kernel
theorem dX7_count_80 : decode cX7_count 80 = .ok (.ireturn, 1) := by decide +kernel
theorem dX7_count_81 : decode cX7_count 81 = .ok (.aload_n 0, 1) := by decide +kernel
theorem dX7_count_82 : decode cX7_count 82 = .ok (.getfield 9, 3) := by decide +kernel
theorem dX7_count_85 : decode cX7_count 85 = .ok (.iconst 4, 1) := by decide +kernel
theorem dX7_count_86 : decode cX7_count 86 = .ok (.iload_n 1, 1) := by decide +kernel
theorem dX7_count_87 : decode cX7_count 87 = .ok (.iadd, 1) := by decide +kernel
theorem dX7_count_88 : decode cX7_count 88 = .ok (.iconst 3, 1) := by decide +kernel
theorem dX7_count_89 : decode cX7_count 89 = .ok (.isub, 1) := by decide +kernel
theorem dX7_count_90 : decode cX7_count 90 = .ok (.iaload, 1) := by decide +kernel
theorem dX7_count_91 : decode cX7_count 91 = .ok (.ireturn, 1) := by decide +kernel
theorem dX7_count_92 : decode cX7_count 92 = .ok (.aload_n 0, 1) := by decide +kernel
theorem dX7_count_93 : decode cX7_count 93 = .ok (.invokevirtual 96, 3) := by decide +kernel
theorem dX7_count_96 : decode cX7_count 96 = .ok (.ireturn, 1) := by decide +kernel
theorem dX7_count_97 : decode cX7_count 97 = .ok (.aload_n 0, 1) := by decide +kernel
theorem dX7_count_98 : decode cX7_count 98 = .ok (.aload_n 0, 1) := by decide +kernel
theorem dX7_count_99 : decode cX7_count 99 = .ok (.invokevirtual 96, 3) := by decide +kernel
theorem dX7_count_102 : decode cX7_count 102 = .ok (.invokevirtual 83, 3) := by decide +kernel
theorem dX7_count_105 : decode cX7_count 105 = .ok (.ireturn, 1) := by decide +kernel
theorem dX7_count_106 : decode cX7_count 106 = .ok (.aload_n 0, 1) := by decide +kernel
theorem dX7_count_107 : decode cX7_count 107 = .ok (.getfield 9, 3) := by decide +kernel
theorem dX7_count_110 : decode cX7_count 110 = .ok (.bipush 6, 2) := by decide +kernel
theorem dX7_count_112 : decode cX7_count 112 = .ok (.iaload, 1) := by decide +kernel
theorem dX7_count_113 : decode cX7_count 113 = .ok (.ireturn, 1) := by decide +kernel
theorem dX7_count_114 : decode cX7_count 114 = .ok (.aload_n 0, 1) := by decide +kernel
theorem dX7_count_115 : decode cX7_count 115 = .ok (.getfield 9, 3) := by decide +kernel
theorem dX7_count_118 : decode cX7_count 118 = .ok (.bipush 7, 2) := by decide +kernel
theorem dX7_count_120 : decode cX7_count 120 = .ok (.iaload, 1) := by decide +kernel
theorem dX7_count_121 : decode cX7_count 121 = .ok (.ireturn, 1) := by decide +kernel
theorem dX7_count_122 : decode cX7_count 122 = .ok (.aload_n 0, 1) := by decide +kernel
theorem dX7_count_123 : decode cX7_count 123 = .ok (.getfield 262, 3) := by decide +kernel
theorem dX7_count_126 : decode cX7_count 126 = .ok (.ireturn, 1) := by decide +kernel
theorem dX7_count_127 : decode cX7_count 127 = .ok (.aload_n 0, 1) := by decide +kernel
theorem dX7_count_128 : decode cX7_count 128 = .ok (.getfield 9, 3) := by decide +kernel
theorem dX7_count_131 : decode cX7_count 131 = .ok (.iconst 1, 1) := by decide +kernel
theorem dX7_count_132 : decode cX7_count 132 = .ok (.iaload, 1) := by decide +kernel
theorem dX7_count_133 : decode cX7_count 133 = .ok (.ireturn, 1) := by decide +kernel
theorem dX7_count_134 : decode cX7_count 134 = .ok (.aload_n 0, 1) := by decide +kernel
theorem dX7_count_135 : decode cX7_count 135 = .ok (.ldc 125, 2) := by decide +kernel
theorem dX7_count_137 : decode cX7_count 137 = .ok (.invokevirtual 126, 3) := by decide +kernel
theorem dX7_count_140 : decode cX7_count 140 = .ok (.ireturn, 1) := by decide +kernel
theorem dX7_told_0 : decode cX7_told 0 = .ok (.iload_n 1, 1) := by decide +kernel
theorem dX7_told_1 : decode cX7_told 1 = .ok (.iconst 1, 1) := by decide +kernel
theorem dX7_told_2 : decode cX7_told 2 = .ok (.bipush 6, 2) := by decide +kernel
theorem dX7_told_4 : decode cX7_told 4 = .ok (.invokestatic 61, 3) := by decide +kernel
theorem dX7_told_7 : decode cX7_told 7 = .ok (.ifCond .eq 12, 3) := by decide +kernel
theorem dX7_told_10 : decode cX7_told 10 = .ok (.aload_n 0, 1) := by decide +kernel
theorem dX7_told_11 : decode cX7_told 11 = .ok (.getfield 19, 3) := by decide +kernel
theorem dX7_told_14 : decode cX7_told 14 = .ok (.iload_n 1, 1) := by decide +kernel
theorem dX7_told_15 : decode cX7_told 15 = .ok (.iaload, 1) := by decide +kernel
theorem dX7_told_16 : decode cX7_told 16 = .ok (.goto 9, 3) := by decide +kernel
theorem dX7_told_19 : decode cX7_told 19 = .ok (.aload_n 0, 1) := by decide +kernel
theorem dX7_told_20 : decode cX7_told 20 = .ok (.ldc 125, 2) := by decide +kernel
theorem dX7_told_22 : decode cX7_told 22 = .ok (.invokevirtual 126, 3) := by decide +kernel
theorem dX7_told_25 : decode cX7_told 25 = .ok (.ireturn, 1) := by decide +kernel
