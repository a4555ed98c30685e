theorem dX12_init_0 : decode cX12_init 0 = .ok (.aload_n 0, 1) := by decide +kernel
theorem dX12_init_1 : decode cX12_init 1 = .ok (.invokespecial 1, 3) := by decide +kernel
theorem dX12_init_4 : decode cX12_init 4 = .ok (.aload_n 0, 1) := by decide +kernel
theorem dX12_init_5 : decode cX12_init 5 = .ok (.sipush 156, 3) := by decide +kernel
theorem dX12_init_8 : decode cX12_init 8 = .ok (.newarray .int, 2) := by decide +kernel
theorem dX12_init_10 : decode cX12_init 10 = .ok (.putfield 9, 3) := by decide +kernel
theorem dX12_init_13 : decode cX12_init 13 = .ok (.aload_n 0, 1) := by decide +kernel
theorem dX12_init_14 : decode cX12_init 14 = .ok (.sipush 156, 3) := by decide +kernel
theorem dX12_init_17 : decode cX12_init 17 = .ok (.newarray .int, 2) := by decide +kernel
theorem dX12_init_19 : decode cX12_init 19 = .ok (.putfield 13, 3) := by decide +kernel
theorem dX12_init_22 : decode cX12_init 22 = .ok (.aload_n 0, 1) := by decide +kernel
theorem dX12_init_23 : decode cX12_init 23 = .ok (.sipush 156, 3) := by decide +kernel
theorem dX12_init_26 : decode cX12_init 26 = .ok (.newarray .int, 2) := by decide +kernel
theorem dX12_init_28 : decode cX12_init 28 = .ok (.putfield 16, 3) := by decide +kernel
theorem dX12_init_31 : decode cX12_init 31 = .ok (.aload_n 0, 1) := by decide +kernel
theorem dX12_init_32 : decode cX12_init 32 = .ok (.bipush 8, 2) := by decide +kernel
theorem dX12_init_34 : decode cX12_init 34 = .ok (.newarray .int, 2) := by decide +kernel
theorem dX12_init_36 : decode cX12_init 36 = .ok (.putfield 19, 3) := by decide +kernel
theorem dX12_init_39 : decode cX12_init 39 = .ok (.aload_n 0, 1) := by decide +kernel
theorem dX12_init_40 : decode cX12_init 40 = .ok (.bipush 8, 2) := by decide +kernel
theorem dX12_init_42 : decode cX12_init 42 = .ok (.newarray .int, 2) := by decide +kernel
theorem dX12_init_44 : decode cX12_init 44 = .ok (.putfield 22, 3) := by decide +kernel
theorem dX12_init_47 : decode cX12_init 47 = .ok (.aload_n 0, 1) := by decide +kernel
theorem dX12_init_48 : decode cX12_init 48 = .ok (.bipush 8, 2) := by decide +kernel
theorem dX12_init_50 : decode cX12_init 50 = .ok (.newarray .int, 2) := by decide +kernel
theorem dX12_init_52 : decode cX12_init 52 = .ok (.putfield 25, 3) := by decide +kernel
theorem dX12_init_55 : decode cX12_init 55 = .ok (.aload_n 0, 1) := by decide +kernel
theorem dX12_init_56 : decode cX12_init 56 = .ok (.sipush 800, 3) := by decide +kernel
theorem dX12_init_59 : decode cX12_init 59 = .ok (.newarray .int, 2) := by decide +kernel
theorem dX12_init_61 : decode cX12_init 61 = .ok (.putfield 28, 3) := by decide +kernel
theorem dX12_init_64 : decode cX12_init 64 = .ok (.aload_n 0, 1) := by decide +kernel
theorem dX12_init_65 : decode cX12_init 65 = .ok (.bipush 8, 2) := by decide +kernel
theorem dX12_init_67 : decode cX12_init 67 = .ok (.newarray .int, 2) := by decide +kernel
theorem dX12_init_69 : decode cX12_init 69 = .ok (.putfield 31, 3) := by decide +kernel
theorem dX12_init_72 : decode cX12_init 72 = .ok (.aload_n 0, 1) := by decide +kernel
theorem dX12_init_73 : decode cX12_init 73 = .ok (.bipush 8, 2) := by decide +kernel
theorem dX12_init_75 : decode cX12_init 75 = .ok (.newarray .int, 2) := by decide +kernel
theorem dX12_init_77 : decode cX12_init 77 = .ok (.putfield 34, 3) := by decide +kernel
theorem dX12_init_80 : decode cX12_init 80 = .ok (.aload_n 0, 1) := by decide +kernel
theorem dX12_init_81 : decode cX12_init 81 = .ok (.iconst 3, 1) := by decide +kernel
theorem dX12_init_82 : decode cX12_init 82 = .ok (.newarray .int, 2) := by decide +kernel
theorem dX12_init_84 : decode cX12_init 84 = .ok (.putfield 37, 3) := by decide +kernel
theorem dX12_init_87 : decode cX12_init 87 = .ok (.aload_n 0, 1) := by decide +kernel
theorem dX12_init_88 : decode cX12_init 88 = .ok (.iconst 4, 1) := by decide +kernel
theorem dX12_init_89 : decode cX12_init 89 = .ok (.newarray .int, 2) := by decide +kernel
theorem dX12_init_91 : decode cX12_init 91 = .ok (.putfield 40, 3) := by decide +kernel
theorem dX12_init_94 : decode cX12_init 94 = .ok (.aload_n 0, 1) := by decide +kernel
theorem dX12_init_95 : decode cX12_init 95 = .ok (.iconst 4, 1) := by decide +kernel
theorem dX12_init_96 : decode cX12_init 96 = .ok (.newarray .int, 2) := by decide +kernel
theorem dX12_init_98 : decode cX12_init 98 = .ok (.putfield 43, 3) := by decide +kernel
theorem dX12_init_101 : decode cX12_init 101 = .ok (.aload_n 0, 1) := by decide +kernel
theorem dX12_init_102 : decode cX12_init 102 = .ok (.iconst 4, 1) := by decide +kernel
theorem dX12_init_103 : decode cX12_init 103 = .ok (.newarray .int, 2) := by decide +kernel
theorem dX12_init_105 : decode cX12_init 105 = .ok (.putfield 46, 3) := by decide +kernel
theorem dX12_init_108 : decode cX12_init 108 = .ok (.aload_n 0, 1) := by decide +kernel
theorem dX12_init_109 : decode cX12_init 109 = .ok (.bipush 100, 2) := by decide +kernel
theorem dX12_init_111 : decode cX12_init 111 = .ok (.newarray .int, 2) := by decide +kernel
theorem dX12_init_113 : decode cX12_init 113 = .ok (.putfield 49, 3) := by decide +kernel
theorem dX12_init_116 : decode cX12_init 116 = .ok (.aload_n 0, 1) := by decide +kernel
theorem dX12_init_117 : decode cX12_init 117 = .ok (.bipush 12, 2) := by decide +kernel
theorem dX12_init_119 : decode cX12_init 119 = .ok (.newarray .int, 2) := by decide +kernel
theorem dX12_init_121 : decode cX12_init 121 = .ok (.putfield 52, 3) := by decide +kernel
theorem dX12_init_124 : decode cX12_init 124 = .ok (.aload_n 0, 1) := by decide +kernel
theorem dX12_init_125 : decode cX12_init 125 = .ok (.bipush 8, 2) := by decide +kernel
theorem dX12_init_127 : decode cX12_init 127 = .ok (.newarray .int, 2) := by decide +kernel
theorem dX12_init_129 : decode cX12_init 129 = .ok (.putfield 55, 3) := by decide +kernel
theorem dX12_init_132 : decode cX12_init 132 = .ok (.iconst 0, 1) := by decide +kernel
theorem dX12_init_133 : decode cX12_init 133 = .ok (.istore_n 1, 1) := by decide +kernel
theorem dX12_init_134 : decode cX12_init 134 = .ok (.iload_n 1, 1) := by decide +kernel
theorem dX12_init_135 : decode cX12_init 135 = .ok (.bipush 100, 2) := by decide +kernel
theorem dX12_init_137 : decode cX12_init 137 = .ok (.if_icmp .ge 20, 3) := by decide +kernel
theorem dX12_init_140 : decode cX12_init 140 = .ok (.aload_n 0, 1) := by decide +kernel
theorem dX12_init_141 : decode cX12_init 141 = .ok (.getfield 9, 3) := by decide +kernel
theorem dX12_init_144 : decode cX12_init 144 = .ok (.bipush 56, 2) := by decide +kernel
theorem dX12_init_146 : decode cX12_init 146 = .ok (.iload_n 1, 1) := by decide +kernel
theorem dX12_init_147 : decode cX12_init 147 = .ok (.iadd, 1) := by decide +kernel
theorem dX12_init_148 : decode cX12_init 148 = .ok (.bipush (-4), 2) := by decide +kernel
theorem dX12_init_150 : decode cX12_init 150 = .ok (.iastore, 1) := by decide +kernel
theorem dX12_init_151 : decode cX12_init 151 = .ok (.iinc 1 1, 3) := by decide +kernel
theorem dX12_init_154 : decode cX12_init 154 = .ok (.goto (-20), 3) := by decide +kernel
theorem dX12_init_157 : decode cX12_init 157 = .ok (.return_, 1) := by decide +kernel
theorem dX12_thrown_0 : decode cX12_thrown 0 = .ok (.aload_n 0, 1) := by decide +kernel
theorem dX12_thrown_1 : decode cX12_thrown 1 = .ok (.getfield 58, 3) := by decide +kernel
theorem dX12_thrown_4 : decode cX12_thrown 4 = .ok (.ireturn, 1) := by decide +kernel
theorem dX12_isIn_0 : decode cX12_isIn 0 = .ok (.lload_n 0, 1) := by decide +kernel
theorem dX12_isIn_1 : decode cX12_isIn 1 = .ok (.lload_n 2, 1) := by decide +kernel
theorem dX12_isIn_2 : decode cX12_isIn 2 = .ok (.lcmp, 1) := by decide +kernel
theorem dX12_isIn_3 : decode cX12_isIn 3 = .ok (.ifCond .lt 14, 3) := by decide +kernel
theorem dX12_isIn_6 : decode cX12_isIn 6 = .ok (.lload_n 0, 1) := by decide +kernel
theorem dX12_isIn_7 : decode cX12_isIn 7 = .ok (.lload 4, 2) := by decide +kernel
theorem dX12_isIn_9 : decode cX12_isIn 9 = .ok (.lcmp, 1) := by decide +kernel
theorem dX12_isIn_10 : decode cX12_isIn 10 = .ok (.ifCond .gt 7, 3) := by decide +kernel
theorem dX12_isIn_13 : decode cX12_isIn 13 = .ok (.iconst 1, 1) := by decide +kernel
theorem dX12_isIn_14 : decode cX12_isIn 14 = .ok (.goto 4, 3) := by decide +kernel
theorem dX12_isIn_17 : decode cX12_isIn 17 = .ok (.iconst 0, 1) := by decide +kernel
theorem dX12_isIn_18 : decode cX12_isIn 18 = .ok (.ireturn, 1) := by decide +kernel
theorem dX12_isWay_0 : decode cX12_isWay 0 = .ok (.iload_n 1, 1) := by decide +kernel
theorem dX12_isWay_1 : decode cX12_isWay 1 = .ok (.i2l, 1) := by decide +kernel
theorem dX12_isWay_2 : decode cX12_isWay 2 = .ok (.lconst 0, 1) := by decide +kernel
theorem dX12_isWay_3 : decode cX12_isWay 3 = .ok (.aload_n 0, 1) := by decide +kernel
theorem dX12_isWay_4 : decode cX12_isWay 4 = .ok (.getfield 9, 3) := by decide +kernel
theorem dX12_isWay_7 : decode cX12_isWay 7 = .ok (.iconst 0, 1) := by decide +kernel
theorem dX12_isWay_8 : decode cX12_isWay 8 = .ok (.iaload, 1) := by decide +kernel
theorem dX12_isWay_9 : decode cX12_isWay 9 = .ok (.iconst 1, 1) := by decide +kernel
theorem dX12_isWay_10 : decode cX12_isWay 10 = .ok (.isub, 1) := by decide +kernel
theorem dX12_isWay_11 : decode cX12_isWay 11 = .ok (.i2l, 1) := by decide +kernel
theorem dX12_isWay_12 : decode cX12_isWay 12 = .ok (.invokestatic 62, 3) := by decide +kernel
theorem dX12_isWay_15 : decode cX12_isWay 15 = .ok (.ireturn, 1) := by decide +kernel
theorem dX12_isChild_0 : decode cX12_isChild 0 = .ok (.iload_n 1, 1) := by decide +kernel
theorem dX12_isChild_1 : decode cX12_isChild 1 = .ok (.i2l, 1) := by decide +kernel
theorem dX12_isChild_2 : decode cX12_isChild 2 = .ok (.lconst 0, 1) := by decide +kernel
theorem dX12_isChild_3 : decode cX12_isChild 3 = .ok (.aload_n 0, 1) := by decide +kernel
theorem dX12_isChild_4 : decode cX12_isChild 4 = .ok (.getfield 9, 3) := by decide +kernel
theorem dX12_isChild_7 : decode cX12_isChild 7 = .ok (.iconst 1, 1) := by decide +kernel
theorem dX12_isChild_8 : decode cX12_isChild 8 = .ok (.iaload, 1) := by decide +kernel
theorem dX12_isChild_9 : decode cX12_isChild 9 = .ok (.iconst 1, 1) := by decide +kernel
theorem dX12_isChild_10 : decode cX12_isChild 10 = .ok (.isub, 1) := by decide +kernel
theorem dX12_isChild_11 : decode cX12_isChild 11 = .ok (.i2l, 1) := by decide +kernel
theorem dX12_isChild_12 : decode cX12_isChild 12 = .ok (.invokestatic 62, 3) := by decide +kernel
theorem dX12_isChild_15 : decode cX12_isChild 15 = .ok (.ireturn, 1) := by decide +kernel
theorem dX12_isShelf_0 : decode cX12_isShelf 0 = .ok (.iload_n 0, 1) := by decide +kernel
theorem dX12_isShelf_1 : decode cX12_isShelf 1 = .ok (.i2l, 1) := by decide +kernel
theorem dX12_isShelf_2 : decode cX12_isShelf 2 = .ok (.lconst 0, 1) := by decide +kernel
theorem dX12_isShelf_3 : decode cX12_isShelf 3 = .ok (.ldc2_w 66, 3) := by decide +kernel
theorem dX12_isShelf_6 : decode cX12_isShelf 6 = .ok (.invokestatic 62, 3) := by decide +kernel
theorem dX12_isShelf_9 : decode cX12_isShelf 9 = .ok (.ireturn, 1) := by decide +kernel
theorem dX12_isSum_0 : decode cX12_isSum 0 = .ok (.iload_n 0, 1) := by decide +kernel
theorem dX12_isSum_1 : decode cX12_isSum 1 = .ok (.i2l, 1) := by decide +kernel
theorem dX12_isSum_2 : decode cX12_isSum 2 = .ok (.lconst 0, 1) := by decide +kernel
theorem dX12_isSum_3 : decode cX12_isSum 3 = .ok (.ldc2_w 68, 3) := by decide +kernel
theorem dX12_isSum_6 : decode cX12_isSum 6 = .ok (.invokestatic 62, 3) := by decide +kernel
theorem dX12_isSum_9 : decode cX12_isSum 9 = .ok (.ifCond .eq 18, 3) := by decide +kernel
theorem dX12_isSum_12 : decode cX12_isSum 12 = .ok (.iload_n 1, 1) := by decide +kernel
theorem dX12_isSum_13 : decode cX12_isSum 13 = .ok (.i2l, 1) := by decide +kernel
theorem dX12_isSum_14 : decode cX12_isSum 14 = .ok (.lconst 0, 1) := by decide +kernel
theorem dX12_isSum_15 : decode cX12_isSum 15 = .ok (.iload_n 0, 1) := by decide +kernel
theorem dX12_isSum_16 : decode cX12_isSum 16 = .ok (.i2l, 1) := by decide +kernel
theorem dX12_isSum_17 : decode cX12_isSum 17 = .ok (.invokestatic 62, 3) := by decide +kernel
theorem dX12_isSum_20 : decode cX12_isSum 20 = .ok (.ifCond .eq 7, 3) := by decide +kernel
theorem dX12_isSum_23 : decode cX12_isSum 23 = .ok (.iconst 1, 1) := by decide +kernel
theorem dX12_isSum_24 : decode cX12_isSum 24 = .ok (.goto 4, 3) := by decide +kernel
theorem dX12_isSum_27 : decode cX12_isSum 27 = .ok (.iconst 0, 1) := by decide +kernel
theorem dX12_isSum_28 : decode cX12_isSum 28 = .ok (.ireturn, 1) := by decide +kernel
theorem dX12_areWays_0 : decode cX12_areWays 0 = .ok (.iload_n 1, 1) := by decide +kernel
theorem dX12_areWays_1 : decode cX12_areWays 1 = .ok (.i2l, 1) := by decide +kernel
theorem dX12_areWays_2 : decode cX12_areWays 2 = .ok (.lconst 0, 1) := by decide +kernel
theorem dX12_areWays_3 : decode cX12_areWays 3 = .ok (.iconst 1, 1) := by decide +kernel
theorem dX12_areWays_4 : decode cX12_areWays 4 = .ok (.aload_n 0, 1) := by decide +kernel
theorem dX12_areWays_5 : decode cX12_areWays 5 = .ok (.getfield 9, 3) := by decide +kernel
theorem dX12_areWays_8 : decode cX12_areWays 8 = .ok (.iconst 0, 1) := by decide +kernel
theorem dX12_areWays_9 : decode cX12_areWays 9 = .ok (.iaload, 1) := by decide +kernel
theorem dX12_areWays_10 : decode cX12_areWays 10 = .ok (.ishl, 1) := by decide +kernel
theorem dX12_areWays_11 : decode cX12_areWays 11 = .ok (.iconst 1, 1) := by decide +kernel
theorem dX12_areWays_12 : decode cX12_areWays 12 = .ok (.isub, 1) := by decide +kernel
theorem dX12_areWays_13 : decode cX12_areWays 13 = .ok (.i2l, 1) := by decide +kernel
theorem dX12_areWays_14 : decode cX12_areWays 14 = .ok (.invokestatic 62, 3) := by decide +kernel
theorem dX12_areWays_17 : decode cX12_areWays 17 = .ok (.ireturn, 1) := by decide +kernel
theorem dX12_get_0 : decode cX12_get 0 = .ok (.aload_n 0, 1) := by decide +kernel
theorem dX12_get_1 : decode cX12_get 1 = .ok (.getfield 9, 3) := by decide +kernel
theorem dX12_get_4 : decode cX12_get 4 = .ok (.iconst 2, 1) := by decide +kernel
theorem dX12_get_5 : decode cX12_get 5 = .ok (.iconst 3, 1) := by decide +kernel
theorem dX12_get_6 : decode cX12_get 6 = .ok (.iload_n 1, 1) := by decide +kernel
theorem dX12_get_7 : decode cX12_get 7 = .ok (.imul, 1) := by decide +kernel
theorem dX12_get_8 : decode cX12_get 8 = .ok (.iadd, 1) := by decide +kernel
theorem dX12_get_9 : decode cX12_get 9 = .ok (.iload_n 2, 1) := by decide +kernel
theorem dX12_get_10 : decode cX12_get 10 = .ok (.iadd, 1) := by decide +kernel
theorem dX12_get_11 : decode cX12_get 11 = .ok (.iaload, 1) := by decide +kernel
theorem dX12_get_12 : decode cX12_get 12 = .ok (.ireturn, 1) := by decide +kernel
theorem dX12_of_0 : decode cX12_of 0 = .ok (.aload_n 0, 1) := by decide +kernel
theorem dX12_of_1 : decode cX12_of 1 = .ok (.getfield 9, 3) := by decide +kernel
theorem dX12_of_4 : decode cX12_of 4 = .ok (.bipush 32, 2) := by decide +kernel
theorem dX12_of_6 : decode cX12_of 6 = .ok (.iconst 3, 1) := by decide +kernel
theorem dX12_of_7 : decode cX12_of 7 = .ok (.iload_n 1, 1) := by decide +kernel
theorem dX12_of_8 : decode cX12_of 8 = .ok (.imul, 1) := by decide +kernel
theorem dX12_of_9 : decode cX12_of 9 = .ok (.iadd, 1) := by decide +kernel
theorem dX12_of_10 : decode cX12_of 10 = .ok (.iload_n 2, 1) := by decide +kernel
theorem dX12_of_11 : decode cX12_of 11 = .ok (.iadd, 1) := by decide +kernel
theorem dX12_of_12 : decode cX12_of 12 = .ok (.iaload, 1) := by decide +kernel
theorem dX12_of_13 : decode cX12_of 13 = .ok (.ireturn, 1) := by decide +kernel
theorem dX12_bits_0 : decode cX12_bits 0 = .ok (.iconst 0, 1) := by decide +kernel
theorem dX12_bits_1 : decode cX12_bits 1 = .ok (.istore_n 1, 1) := by decide +kernel
theorem dX12_bits_2 : decode cX12_bits 2 = .ok (.iload_n 0, 1) := by decide +kernel
theorem dX12_bits_3 : decode cX12_bits 3 = .ok (.istore_n 2, 1) := by decide +kernel
theorem dX12_bits_4 : decode cX12_bits 4 = .ok (.iload_n 2, 1) := by decide +kernel
theorem dX12_bits_5 : decode cX12_bits 5 = .ok (.ifCond .le 16, 3) := by decide +kernel
theorem dX12_bits_8 : decode cX12_bits 8 = .ok (.iload_n 1, 1) := by decide +kernel
theorem dX12_bits_9 : decode cX12_bits 9 = .ok (.iload_n 2, 1) := by decide +kernel
theorem dX12_bits_10 : decode cX12_bits 10 = .ok (.iconst 1, 1) := by decide +kernel
theorem dX12_bits_11 : decode cX12_bits 11 = .ok (.iand, 1) := by decide +kernel
theorem dX12_bits_12 : decode cX12_bits 12 = .ok (.iadd, 1) := by decide +kernel
theorem dX12_bits_13 : decode cX12_bits 13 = .ok (.istore_n 1, 1) := by decide +kernel
theorem dX12_bits_14 : decode cX12_bits 14 = .ok (.iload_n 2, 1) := by decide +kernel
theorem dX12_bits_15 : decode cX12_bits 15 = .ok (.iconst 1, 1) := by decide +kernel
theorem dX12_bits_16 : decode cX12_bits 16 = .ok (.ishr, 1) := by decide +kernel
theorem dX12_bits_17 : decode cX12_bits 17 = .ok (.istore_n 2, 1) := by decide +kernel
theorem dX12_bits_18 : decode cX12_bits 18 = .ok (.goto (-14), 3) := by decide +kernel
theorem dX12_bits_21 : decode cX12_bits 21 = .ok (.iload_n 1, 1) := by decide +kernel
theorem dX12_bits_22 : decode cX12_bits 22 = .ok (.ireturn, 1) := by decide +kernel
theorem dX12_here_0 : decode cX12_here 0 = .ok (.aload_n 0, 1) := by decide +kernel
theorem dX12_here_1 : decode cX12_here 1 = .ok (.getfield 70, 3) := by decide +kernel
theorem dX12_here_4 : decode cX12_here 4 = .ok (.aload_n 0, 1) := by decide +kernel
theorem dX12_here_5 : decode cX12_here 5 = .ok (.getfield 73, 3) := by decide +kernel
theorem dX12_here_8 : decode cX12_here 8 = .ok (.if_icmp .ge 20, 3) := by decide +kernel
theorem dX12_here_11 : decode cX12_here 11 = .ok (.aload_n 0, 1) := by decide +kernel
theorem dX12_here_12 : decode cX12_here 12 = .ok (.getfield 28, 3) := by decide +kernel
theorem dX12_here_15 : decode cX12_here 15 = .ok (.aload_n 0, 1) := by decide +kernel
theorem dX12_here_16 : decode cX12_here 16 = .ok (.getfield 76, 3) := by decide +kernel
theorem dX12_here_19 : decode cX12_here 19 = .ok (.aload_n 0, 1) := by decide +kernel
theorem dX12_here_20 : decode cX12_here 20 = .ok (.getfield 70, 3) := by decide +kernel
theorem dX12_here_23 : decode cX12_here 23 = .ok (.iadd, 1) := by decide +kernel
theorem dX12_here_24 : decode cX12_here 24 = .ok (.iaload, 1) := by decide +kernel
theorem dX12_here_25 : decode cX12_here 25 = .ok (.goto 6, 3) := by decide +kernel
theorem dX12_here_28 : decode cX12_here 28 = .ok (.sipush (-1000), 3) := by decide +kernel
theorem dX12_here_31 : decode cX12_here 31 = .ok (.ireturn, 1) := by decide +kernel
theorem dX12_isDigit_0 : decode cX12_isDigit 0 = .ok (.aload_n 0, 1) := by decide +kernel
theorem dX12_isDigit_1 : decode cX12_isDigit 1 = .ok (.invokevirtual 79, 3) := by decide +kernel
theorem dX12_isDigit_4 : decode cX12_isDigit 4 = .ok (.i2l, 1) := by decide +kernel
theorem dX12_isDigit_5 : decode cX12_isDigit 5 = .ok (.ldc2_w 83, 3) := by decide +kernel
theorem dX12_isDigit_8 : decode cX12_isDigit 8 = .ok (.ldc2_w 85, 3) := by decide +kernel
theorem dX12_isDigit_11 : decode cX12_isDigit 11 = .ok (.invokestatic 62, 3) := by decide +kernel
theorem dX12_isDigit_14 : decode cX12_isDigit 14 = .ok (.ireturn, 1) := by decide +kernel
theorem dX12_takes_0 : decode cX12_takes 0 = .ok (.aload_n 0, 1) := by decide +kernel
theorem dX12_takes_1 : decode cX12_takes 1 = .ok (.invokevirtual 79, 3) := by decide +kernel
theorem dX12_takes_4 : decode cX12_takes 4 = .ok (.iload_n 1, 1) := by decide +kernel
theorem dX12_takes_5 : decode cX12_takes 5 = .ok (.if_icmp .eq 5, 3) := by decide +kernel
theorem dX12_takes_8 : decode cX12_takes 8 = .ok (.iconst 0, 1) := by decide +kernel
theorem dX12_takes_9 : decode cX12_takes 9 = .ok (.ireturn, 1) := by decide +kernel
theorem dX12_takes_10 : decode cX12_takes 10 = .ok (.aload_n 0, 1) := by decide +kernel
theorem dX12_takes_11 : decode cX12_takes 11 = .ok (.dup, 1) := by decide +kernel
theorem dX12_takes_12 : decode cX12_takes 12 = .ok (.getfield 70, 3) := by decide +kernel
theorem dX12_takes_15 : decode cX12_takes 15 = .ok (.iconst 1, 1) := by decide +kernel
theorem dX12_takes_16 : decode cX12_takes 16 = .ok (.iadd, 1) := by decide +kernel
theorem dX12_takes_17 : decode cX12_takes 17 = .ok (.putfield 70, 3) := by decide +kernel
theorem dX12_takes_20 : decode cX12_takes 20 = .ok (.iconst 1, 1) := by decide +kernel
theorem dX12_takes_21 : decode cX12_takes 21 = .ok (.ireturn, 1) := by decide +kernel
theorem dX12_readsNumber_0 : decode cX12_readsNumber 0 = .ok (.aload_n 0, 1) := by decide +kernel
theorem dX12_readsNumber_1 : decode cX12_readsNumber 1 = .ok (.invokevirtual 87, 3) := by decide +kernel
theorem dX12_readsNumber_4 : decode cX12_readsNumber 4 = .ok (.ifCond .ne 5, 3) := by decide +kernel
theorem dX12_readsNumber_7 : decode cX12_readsNumber 7 = .ok (.iconst 0, 1) := by decide +kernel
theorem dX12_readsNumber_8 : decode cX12_readsNumber 8 = .ok (.ireturn, 1) := by decide +kernel
theorem dX12_readsNumber_9 : decode cX12_readsNumber 9 = .ok (.aload_n 0, 1) := by decide +kernel
theorem dX12_readsNumber_10 : decode cX12_readsNumber 10 = .ok (.invokevirtual 79, 3) := by decide +kernel
theorem dX12_readsNumber_13 : decode cX12_readsNumber 13 = .ok (.bipush 48, 2) := by decide +kernel
theorem dX12_readsNumber_15 : decode cX12_readsNumber 15 = .ok (.isub, 1) := by decide +kernel
theorem dX12_readsNumber_16 : decode cX12_readsNumber 16 = .ok (.istore_n 2, 1) := by decide +kernel
theorem dX12_readsNumber_17 : decode cX12_readsNumber 17 = .ok (.aload_n 0, 1) := by decide +kernel
theorem dX12_readsNumber_18 : decode cX12_readsNumber 18 = .ok (.dup, 1) := by decide +kernel
theorem dX12_readsNumber_19 : decode cX12_readsNumber 19 = .ok (.getfield 70, 3) := by decide +kernel
theorem dX12_readsNumber_22 : decode cX12_readsNumber 22 = .ok (.iconst 1, 1) := by decide +kernel
theorem dX12_readsNumber_23 : decode cX12_readsNumber 23 = .ok (.iadd, 1) := by decide +kernel
theorem dX12_readsNumber_24 : decode cX12_readsNumber 24 = .ok (.putfield 70, 3) := by decide +kernel
theorem dX12_readsNumber_27 : decode cX12_readsNumber 27 = .ok (.iload_n 1, 1) := by decide +kernel
theorem dX12_readsNumber_28 : decode cX12_readsNumber 28 = .ok (.iconst 1, 1) := by decide +kernel
theorem dX12_readsNumber_29 : decode cX12_readsNumber 29 = .ok (.if_icmp .le 37, 3) := by decide +kernel
theorem dX12_readsNumber_32 : decode cX12_readsNumber 32 = .ok (.iload_n 2, 1) := by decide +kernel
theorem dX12_readsNumber_33 : decode cX12_readsNumber 33 = .ok (.ifCond .le 33, 3) := by decide +kernel
theorem dX12_readsNumber_36 : decode cX12_readsNumber 36 = .ok (.aload_n 0, 1) := by decide +kernel
theorem dX12_readsNumber_37 : decode cX12_readsNumber 37 = .ok (.invokevirtual 87, 3) := by decide +kernel
theorem dX12_readsNumber_40 : decode cX12_readsNumber 40 = .ok (.ifCond .eq 26, 3) := by decide +kernel
theorem dX12_readsNumber_43 : decode cX12_readsNumber 43 = .ok (.bipush 10, 2) := by decide +kernel
theorem dX12_readsNumber_45 : decode cX12_readsNumber 45 = .ok (.iload_n 2, 1) := by decide +kernel
theorem dX12_readsNumber_46 : decode cX12_readsNumber 46 = .ok (.imul, 1) := by decide +kernel
theorem dX12_readsNumber_47 : decode cX12_readsNumber 47 = .ok (.aload_n 0, 1) := by decide +kernel
theorem dX12_readsNumber_48 : decode cX12_readsNumber 48 = .ok (.invokevirtual 79, 3) := by decide +kernel
theorem dX12_readsNumber_51 : decode cX12_readsNumber 51 = .ok (.iadd, 1) := by decide +kernel
theorem dX12_readsNumber_52 : decode cX12_readsNumber 52 = .ok (.bipush 48, 2) := by decide +kernel
theorem dX12_readsNumber_54 : decode cX12_readsNumber 54 = .ok (.isub, 1) := by decide +kernel
theorem dX12_readsNumber_55 : decode cX12_readsNumber 55 = .ok (.istore_n 2, 1) := by decide +kernel
theorem dX12_readsNumber_56 : decode cX12_readsNumber 56 = .ok (.aload_n 0, 1) := by decide +kernel
theorem dX12_readsNumber_57 : decode cX12_readsNumber 57 = .ok (.dup, 1) := by decide +kernel
theorem dX12_readsNumber_58 : decode cX12_readsNumber 58 = .ok (.getfield 70, 3) := by decide +kernel
theorem dX12_readsNumber_61 : decode cX12_readsNumber 61 = .ok (.iconst 1, 1) := by decide +kernel
theorem dX12_readsNumber_62 : decode cX12_readsNumber 62 = .ok (.iadd, 1) := by decide +kernel
theorem dX12_readsNumber_63 : decode cX12_readsNumber 63 = .ok (.putfield 70, 3) := by decide +kernel
theorem dX12_readsNumber_66 : decode cX12_readsNumber 66 = .ok (.aload_n 0, 1) := by decide +kernel
theorem dX12_readsNumber_67 : decode cX12_readsNumber 67 = .ok (.getfield 37, 3) := by decide +kernel
theorem dX12_readsNumber_70 : decode cX12_readsNumber 70 = .ok (.aload_n 0, 1) := by decide +kernel
theorem dX12_readsNumber_71 : decode cX12_readsNumber 71 = .ok (.getfield 91, 3) := by decide +kernel
theorem dX12_readsNumber_74 : decode cX12_readsNumber 74 = .ok (.iload_n 2, 1) := by decide +kernel
theorem dX12_readsNumber_75 : decode cX12_readsNumber 75 = .ok (.iastore, 1) := by decide +kernel
theorem dX12_readsNumber_76 : decode cX12_readsNumber 76 = .ok (.aload_n 0, 1) := by decide +kernel
theorem dX12_readsNumber_77 : decode cX12_readsNumber 77 = .ok (.dup, 1) := by decide +kernel
theorem dX12_readsNumber_78 : decode cX12_readsNumber 78 = .ok (.getfield 91, 3) := by decide +kernel
theorem dX12_readsNumber_81 : decode cX12_readsNumber 81 = .ok (.iconst 1, 1) := by decide +kernel
theorem dX12_readsNumber_82 : decode cX12_readsNumber 82 = .ok (.iadd, 1) := by decide +kernel
theorem dX12_readsNumber_83 : decode cX12_readsNumber 83 = .ok (.putfield 91, 3) := by decide +kernel
theorem dX12_readsNumber_86 : decode cX12_readsNumber 86 = .ok (.iconst 1, 1) := by decide +kernel
theorem dX12_readsNumber_87 : decode cX12_readsNumber 87 = .ok (.ireturn, 1) := by decide +kernel
theorem dX12_readsStatement_0 : decode cX12_readsStatement 0 = .ok (.aload_n 0, 1) := by decide +kernel
theorem dX12_readsStatement_1 : decode cX12_readsStatement 1 = .ok (.invokevirtual 79, 3) := by decide +kernel
theorem dX12_readsStatement_4 : decode cX12_readsStatement 4 = .ok (.istore_n 1, 1) := by decide +kernel
theorem dX12_readsStatement_5 : decode cX12_readsStatement 5 = .ok (.aload_n 0, 1) := by decide +kernel
theorem dX12_readsStatement_6 : decode cX12_readsStatement 6 = .ok (.iconst 0, 1) := by decide +kernel
theorem dX12_readsStatement_7 : decode cX12_readsStatement 7 = .ok (.putfield 91, 3) := by decide +kernel
theorem dX12_readsStatement_10 : decode cX12_readsStatement 10 = .ok (.iload_n 1, 1) := by decide +kernel
theorem dX12_readsStatement_11 : decode cX12_readsStatement 11 = .ok (.bipush 121, 2) := by decide +kernel
theorem dX12_readsStatement_13 : decode cX12_readsStatement 13 = .ok (.if_icmp .eq 17, 3) := by decide +kernel
theorem dX12_readsStatement_16 : decode cX12_readsStatement 16 = .ok (.iload_n 1, 1) := by decide +kernel
theorem dX12_readsStatement_17 : decode cX12_readsStatement 17 = .ok (.bipush 107, 2) := by decide +kernel
theorem dX12_readsStatement_19 : decode cX12_readsStatement 19 = .ok (.if_icmp .eq 11, 3) := by decide +kernel
theorem dX12_readsStatement_22 : decode cX12_readsStatement 22 = .ok (.iload_n 1, 1) := by decide +kernel
theorem dX12_readsStatement_23 : decode cX12_readsStatement 23 = .ok (.bipush 116, 2) := by decide +kernel
theorem dX12_readsStatement_25 : decode cX12_readsStatement 25 = .ok (.if_icmp .eq 5, 3) := by decide +kernel
theorem dX12_readsStatement_28 : decode cX12_readsStatement 28 = .ok (.iconst 0, 1) := by decide +kernel
theorem dX12_readsStatement_29 : decode cX12_readsStatement 29 = .ok (.ireturn, 1) := by decide +kernel
theorem dX12_readsStatement_30 : decode cX12_readsStatement 30 = .ok (.aload_n 0, 1) := by decide +kernel
theorem dX12_readsStatement_31 : decode cX12_readsStatement 31 = .ok (.dup, 1) := by decide +kernel
theorem dX12_readsStatement_32 : decode cX12_readsStatement 32 = .ok (.getfield 70, 3) := by decide +kernel
theorem dX12_readsStatement_35 : decode cX12_readsStatement 35 = .ok (.iconst 1, 1) := by decide +kernel
theorem dX12_readsStatement_36 : decode cX12_readsStatement 36 = .ok (.iadd, 1) := by decide +kernel
theorem dX12_readsStatement_37 : decode cX12_readsStatement 37 = .ok (.putfield 70, 3) := by decide +kernel
theorem dX12_readsStatement_40 : decode cX12_readsStatement 40 = .ok (.aload_n 0, 1) := by decide +kernel
theorem dX12_readsStatement_41 : decode cX12_readsStatement 41 = .ok (.iconst 1, 1) := by decide +kernel
theorem dX12_readsStatement_42 : decode cX12_readsStatement 42 = .ok (.invokevirtual 94, 3) := by decide +kernel
theorem dX12_readsStatement_45 : decode cX12_readsStatement 45 = .ok (.istore_n 2, 1) := by decide +kernel
theorem dX12_readsStatement_46 : decode cX12_readsStatement 46 = .ok (.iload_n 1, 1) := by decide +kernel
theorem dX12_readsStatement_47 : decode cX12_readsStatement 47 = .ok (.bipush 107, 2) := by decide +kernel
theorem dX12_readsStatement_49 : decode cX12_readsStatement 49 = .ok (.if_icmp .ne 30, 3) := by decide +kernel
theorem dX12_readsStatement_52 : decode cX12_readsStatement 52 = .ok (.iload_n 2, 1) := by decide +kernel
theorem dX12_readsStatement_53 : decode cX12_readsStatement 53 = .ok (.ifCond .eq 24, 3) := by decide +kernel
theorem dX12_readsStatement_56 : decode cX12_readsStatement 56 = .ok (.aload_n 0, 1) := by decide +kernel
theorem dX12_readsStatement_57 : decode cX12_readsStatement 57 = .ok (.iconst 2, 1) := by decide +kernel
theorem dX12_readsStatement_58 : decode cX12_readsStatement 58 = .ok (.invokevirtual 94, 3) := by decide +kernel
theorem dX12_readsStatement_61 : decode cX12_readsStatement 61 = .ok (.ifCond .eq 16, 3) := by decide +kernel
theorem dX12_readsStatement_64 : decode cX12_readsStatement 64 = .ok (.aload_n 0, 1) := by decide +kernel
theorem dX12_readsStatement_65 : decode cX12_readsStatement 65 = .ok (.bipush 59, 2) := by decide +kernel
theorem dX12_readsStatement_67 : decode cX12_readsStatement 67 = .ok (.invokevirtual 98, 3) := by decide +kernel
theorem dX12_readsStatement_70 : decode cX12_readsStatement 70 = .ok (.ifCond .eq 7, 3) := by decide +kernel
theorem dX12_readsStatement_73 : decode cX12_readsStatement 73 = .ok (.iconst 1, 1) := by decide +kernel
theorem dX12_readsStatement_74 : decode cX12_readsStatement 74 = .ok (.goto 4, 3) := by decide +kernel
theorem dX12_readsStatement_77 : decode cX12_readsStatement 77 = .ok (.iconst 0, 1) := by decide +kernel
theorem dX12_readsStatement_78 : decode cX12_readsStatement 78 = .ok (.ireturn, 1) := by decide +kernel
theorem dX12_readsStatement_79 : decode cX12_readsStatement 79 = .ok (.iload_n 2, 1) := by decide +kernel
theorem dX12_readsStatement_80 : decode cX12_readsStatement 80 = .ok (.ifCond .eq 15, 3) := by decide +kernel
theorem dX12_readsStatement_83 : decode cX12_readsStatement 83 = .ok (.aload_n 0, 1) := by decide +kernel
theorem dX12_readsStatement_84 : decode cX12_readsStatement 84 = .ok (.iconst 1, 1) := by decide +kernel
theorem dX12_readsStatement_85 : decode cX12_readsStatement 85 = .ok (.invokevirtual 94, 3) := by decide +kernel
theorem dX12_readsStatement_88 : decode cX12_readsStatement 88 = .ok (.ifCond .eq 7, 3) := by decide +kernel
theorem dX12_readsStatement_91 : decode cX12_readsStatement 91 = .ok (.iconst 1, 1) := by decide +kernel
theorem dX12_readsStatement_92 : decode cX12_readsStatement 92 = .ok (.goto 4, 3) := by decide +kernel
theorem dX12_readsStatement_95 : decode cX12_readsStatement 95 = .ok (.iconst 0, 1) := by decide +kernel
theorem dX12_readsStatement_96 : decode cX12_readsStatement 96 = .ok (.istore_n 2, 1) := by decide +kernel
theorem dX12_readsStatement_97 : decode cX12_readsStatement 97 = .ok (.iload_n 1, 1) := by decide +kernel
theorem dX12_readsStatement_98 : decode cX12_readsStatement 98 = .ok (.bipush 121, 2) := by decide +kernel
theorem dX12_readsStatement_100 : decode cX12_readsStatement 100 = .ok (.if_icmp .ne 30, 3) := by decide +kernel
theorem dX12_readsStatement_103 : decode cX12_readsStatement 103 = .ok (.iload_n 2, 1) := by decide +kernel
theorem dX12_readsStatement_104 : decode cX12_readsStatement 104 = .ok (.ifCond .eq 24, 3) := by decide +kernel
theorem dX12_readsStatement_107 : decode cX12_readsStatement 107 = .ok (.aload_n 0, 1) := by decide +kernel
theorem dX12_readsStatement_108 : decode cX12_readsStatement 108 = .ok (.iconst 2, 1) := by decide +kernel
theorem dX12_readsStatement_109 : decode cX12_readsStatement 109 = .ok (.invokevirtual 94, 3) := by decide +kernel
theorem dX12_readsStatement_112 : decode cX12_readsStatement 112 = .ok (.ifCond .eq 16, 3) := by decide +kernel
theorem dX12_readsStatement_115 : decode cX12_readsStatement 115 = .ok (.aload_n 0, 1) := by decide +kernel
theorem dX12_readsStatement_116 : decode cX12_readsStatement 116 = .ok (.bipush 59, 2) := by decide +kernel
theorem dX12_readsStatement_118 : decode cX12_readsStatement 118 = .ok (.invokevirtual 98, 3) := by decide +kernel
theorem dX12_readsStatement_121 : decode cX12_readsStatement 121 = .ok (.ifCond .eq 7, 3) := by decide +kernel
theorem dX12_readsStatement_124 : decode cX12_readsStatement 124 = .ok (.iconst 1, 1) := by decide +kernel
theorem dX12_readsStatement_125 : decode cX12_readsStatement 125 = .ok (.goto 4, 3) := by decide +kernel
theorem dX12_readsStatement_128 : decode cX12_readsStatement 128 = .ok (.iconst 0, 1) := by decide +kernel
theorem dX12_readsStatement_129 : decode cX12_readsStatement 129 = .ok (.ireturn, 1) := by decide +kernel
theorem dX12_readsStatement_130 : decode cX12_readsStatement 130 = .ok (.aload_n 0, 1) := by decide +kernel
theorem dX12_readsStatement_131 : decode cX12_readsStatement 131 = .ok (.getfield 37, 3) := by decide +kernel
theorem dX12_readsStatement_134 : decode cX12_readsStatement 134 = .ok (.iconst 2, 1) := by decide +kernel
theorem dX12_readsStatement_135 : decode cX12_readsStatement 135 = .ok (.iconst 0, 1) := by decide +kernel
theorem dX12_readsStatement_136 : decode cX12_readsStatement 136 = .ok (.iastore, 1) := by decide +kernel
theorem dX12_readsStatement_137 : decode cX12_readsStatement 137 = .ok (.iload_n 2, 1) := by decide +kernel
theorem dX12_readsStatement_138 : decode cX12_readsStatement 138 = .ok (.ifCond .eq 16, 3) := by decide +kernel
theorem dX12_readsStatement_141 : decode cX12_readsStatement 141 = .ok (.aload_n 0, 1) := by decide +kernel
theorem dX12_readsStatement_142 : decode cX12_readsStatement 142 = .ok (.invokevirtual 87, 3) := by decide +kernel
theorem dX12_readsStatement_145 : decode cX12_readsStatement 145 = .ok (.ifCond .eq 9, 3) := by decide +kernel
theorem dX12_readsStatement_148 : decode cX12_readsStatement 148 = .ok (.aload_n 0, 1) := by decide +kernel
theorem dX12_readsStatement_149 : decode cX12_readsStatement 149 = .ok (.iconst 1, 1) := by decide +kernel
theorem dX12_readsStatement_150 : decode cX12_readsStatement 150 = .ok (.invokevirtual 94, 3) := by decide +kernel
theorem dX12_readsStatement_153 : decode cX12_readsStatement 153 = .ok (.istore_n 2, 1) := by decide +kernel
theorem dX12_readsStatement_154 : decode cX12_readsStatement 154 = .ok (.iload_n 2, 1) := by decide +kernel
theorem dX12_readsStatement_155 : decode cX12_readsStatement 155 = .ok (.ifCond .eq 16, 3) := by decide +kernel
theorem dX12_readsStatement_158 : decode cX12_readsStatement 158 = .ok (.aload_n 0, 1) := by decide +kernel
theorem dX12_readsStatement_159 : decode cX12_readsStatement 159 = .ok (.bipush 59, 2) := by decide +kernel
theorem dX12_readsStatement_161 : decode cX12_readsStatement 161 = .ok (.invokevirtual 98, 3) := by decide +kernel
theorem dX12_readsStatement_164 : decode cX12_readsStatement 164 = .ok (.ifCond .eq 7, 3) := by decide +kernel
theorem dX12_readsStatement_167 : decode cX12_readsStatement 167 = .ok (.iconst 1, 1) := by decide +kernel
theorem dX12_readsStatement_168 : decode cX12_readsStatement 168 = .ok (.goto 4, 3) := by decide +kernel
theorem dX12_readsStatement_171 : decode cX12_readsStatement 171 = .ok (.iconst 0, 1) := by decide +kernel
theorem dX12_readsStatement_172 : decode cX12_readsStatement 172 = .ok (.ireturn, 1) := by decide +kernel
theorem dX12_tells_0 : decode cX12_tells 0 = .ok (.aload_n 0, 1) := by decide +kernel
theorem dX12_tells_1 : decode cX12_tells 1 = .ok (.getfield 37, 3) := by decide +kernel
theorem dX12_tells_4 : decode cX12_tells 4 = .ok (.iconst 0, 1) := by decide +kernel
theorem dX12_tells_5 : decode cX12_tells 5 = .ok (.iaload, 1) := by decide +kernel
theorem dX12_tells_6 : decode cX12_tells 6 = .ok (.istore_n 2, 1) := by decide +kernel
theorem dX12_tells_7 : decode cX12_tells 7 = .ok (.aload_n 0, 1) := by decide +kernel
theorem dX12_tells_8 : decode cX12_tells 8 = .ok (.getfield 37, 3) := by decide +kernel
theorem dX12_tells_11 : decode cX12_tells 11 = .ok (.iconst 1, 1) := by decide +kernel
theorem dX12_tells_12 : decode cX12_tells 12 = .ok (.iaload, 1) := by decide +kernel
theorem dX12_tells_13 : decode cX12_tells 13 = .ok (.istore_n 3, 1) := by decide +kernel
theorem dX12_tells_14 : decode cX12_tells 14 = .ok (.iload_n 1, 1) := by decide +kernel
theorem dX12_tells_15 : decode cX12_tells 15 = .ok (.lookupswitch 188 #[(107, 106), (121, 25)], 25) := by decide +kernel
theorem dX12_tells_40 : decode cX12_tells 40 = .ok (.iload_n 2, 1) := by decide +kernel
theorem dX12_tells_41 : decode cX12_tells 41 = .ok (.bipush 7, 2) := by decide +kernel
theorem dX12_tells_43 : decode cX12_tells 43 = .ok (.if_icmp .gt 24, 3) := by decide +kernel
theorem dX12_tells_46 : decode cX12_tells 46 = .ok (.aload_n 0, 1) := by decide +kernel
theorem dX12_tells_47 : decode cX12_tells 47 = .ok (.getfield 37, 3) := by decide +kernel
theorem dX12_tells_50 : decode cX12_tells 50 = .ok (.iconst 2, 1) := by decide +kernel
theorem dX12_tells_51 : decode cX12_tells 51 = .ok (.iaload, 1) := by decide +kernel
theorem dX12_tells_52 : decode cX12_tells 52 = .ok (.iconst 1, 1) := by decide +kernel
theorem dX12_tells_53 : decode cX12_tells 53 = .ok (.if_icmp .lt 14, 3) := by decide +kernel
theorem dX12_tells_56 : decode cX12_tells 56 = .ok (.aload_n 0, 1) := by decide +kernel
theorem dX12_tells_57 : decode cX12_tells 57 = .ok (.getfield 16, 3) := by decide +kernel
theorem dX12_tells_60 : decode cX12_tells 60 = .ok (.iconst 0, 1) := by decide +kernel
theorem dX12_tells_61 : decode cX12_tells 61 = .ok (.iaload, 1) := by decide +kernel
theorem dX12_tells_62 : decode cX12_tells 62 = .ok (.bipush 10, 2) := by decide +kernel
theorem dX12_tells_64 : decode cX12_tells 64 = .ok (.if_icmp .ne 5, 3) := by decide +kernel
theorem dX12_tells_67 : decode cX12_tells 67 = .ok (.iconst 0, 1) := by decide +kernel
theorem dX12_tells_68 : decode cX12_tells 68 = .ok (.ireturn, 1) := by decide +kernel
theorem dX12_tells_69 : decode cX12_tells 69 = .ok (.iconst 0, 1) := by decide +kernel
theorem dX12_tells_70 : decode cX12_tells 70 = .ok (.istore 4, 2) := by decide +kernel
theorem dX12_tells_72 : decode cX12_tells 72 = .ok (.iload 4, 2) := by decide +kernel
theorem dX12_tells_74 : decode cX12_tells 74 = .ok (.iconst 3, 1) := by decide +kernel
theorem dX12_tells_75 : decode cX12_tells 75 = .ok (.if_icmp .ge 34, 3) := by decide +kernel
theorem dX12_tells_78 : decode cX12_tells 78 = .ok (.aload_n 0, 1) := by decide +kernel
theorem dX12_tells_79 : decode cX12_tells 79 = .ok (.getfield 16, 3) := by decide +kernel
theorem dX12_tells_82 : decode cX12_tells 82 = .ok (.iconst 2, 1) := by decide +kernel
theorem dX12_tells_83 : decode cX12_tells 83 = .ok (.iconst 3, 1) := by decide +kernel
theorem dX12_tells_84 : decode cX12_tells 84 = .ok (.aload_n 0, 1) := by decide +kernel
theorem dX12_tells_85 : decode cX12_tells 85 = .ok (.getfield 16, 3) := by decide +kernel
theorem dX12_tells_88 : decode cX12_tells 88 = .ok (.iconst 0, 1) := by decide +kernel
theorem dX12_tells_89 : decode cX12_tells 89 = .ok (.iaload, 1) := by decide +kernel
theorem dX12_tells_90 : decode cX12_tells 90 = .ok (.imul, 1) := by decide +kernel
theorem dX12_tells_91 : decode cX12_tells 91 = .ok (.iadd, 1) := by decide +kernel
theorem dX12_tells_92 : decode cX12_tells 92 = .ok (.iload 4, 2) := by decide +kernel
theorem dX12_tells_94 : decode cX12_tells 94 = .ok (.iadd, 1) := by decide +kernel
theorem dX12_tells_95 : decode cX12_tells 95 = .ok (.aload_n 0, 1) := by decide +kernel
theorem dX12_tells_96 : decode cX12_tells 96 = .ok (.getfield 37, 3) := by decide +kernel
theorem dX12_tells_99 : decode cX12_tells 99 = .ok (.iload 4, 2) := by decide +kernel
theorem dX12_tells_101 : decode cX12_tells 101 = .ok (.iaload, 1) := by decide +kernel
theorem dX12_tells_102 : decode cX12_tells 102 = .ok (.iastore, 1) := by decide +kernel
theorem dX12_tells_103 : decode cX12_tells 103 = .ok (.iinc 4 1, 3) := by decide +kernel
theorem dX12_tells_106 : decode cX12_tells 106 = .ok (.goto (-34), 3) := by decide +kernel
theorem dX12_tells_109 : decode cX12_tells 109 = .ok (.aload_n 0, 1) := by decide +kernel
theorem dX12_tells_110 : decode cX12_tells 110 = .ok (.getfield 16, 3) := by decide +kernel
theorem dX12_tells_113 : decode cX12_tells 113 = .ok (.iconst 0, 1) := by decide +kernel
theorem dX12_tells_114 : decode cX12_tells 114 = .ok (.dup2, 1) := by decide +kernel
theorem dX12_tells_115 : decode cX12_tells 115 = .ok (.iaload, 1) := by decide +kernel
theorem dX12_tells_116 : decode cX12_tells 116 = .ok (.iconst 1, 1) := by decide +kernel
theorem dX12_tells_117 : decode cX12_tells 117 = .ok (.iadd, 1) := by decide +kernel
theorem dX12_tells_118 : decode cX12_tells 118 = .ok (.iastore, 1) := by decide +kernel
theorem dX12_tells_119 : decode cX12_tells 119 = .ok (.iconst 1, 1) := by decide +kernel
theorem dX12_tells_120 : decode cX12_tells 120 = .ok (.ireturn, 1) := by decide +kernel
theorem dX12_tells_121 : decode cX12_tells 121 = .ok (.iload_n 2, 1) := by decide +kernel
theorem dX12_tells_122 : decode cX12_tells 122 = .ok (.aload_n 0, 1) := by decide +kernel
theorem dX12_tells_123 : decode cX12_tells 123 = .ok (.getfield 16, 3) := by decide +kernel
theorem dX12_tells_126 : decode cX12_tells 126 = .ok (.iconst 0, 1) := by decide +kernel
theorem dX12_tells_127 : decode cX12_tells 127 = .ok (.iaload, 1) := by decide +kernel
theorem dX12_tells_128 : decode cX12_tells 128 = .ok (.if_icmp .ge 20, 3) := by decide +kernel
theorem dX12_tells_131 : decode cX12_tells 131 = .ok (.iload_n 3, 1) := by decide +kernel
theorem dX12_tells_132 : decode cX12_tells 132 = .ok (.bipush 50, 2) := by decide +kernel
theorem dX12_tells_134 : decode cX12_tells 134 = .ok (.if_icmp .gt 14, 3) := by decide +kernel
theorem dX12_tells_137 : decode cX12_tells 137 = .ok (.aload_n 0, 1) := by decide +kernel
theorem dX12_tells_138 : decode cX12_tells 138 = .ok (.getfield 16, 3) := by decide +kernel
theorem dX12_tells_141 : decode cX12_tells 141 = .ok (.iconst 1, 1) := by decide +kernel
theorem dX12_tells_142 : decode cX12_tells 142 = .ok (.iaload, 1) := by decide +kernel
theorem dX12_tells_143 : decode cX12_tells 143 = .ok (.bipush 8, 2) := by decide +kernel
theorem dX12_tells_145 : decode cX12_tells 145 = .ok (.if_icmp .ne 5, 3) := by decide +kernel
theorem dX12_tells_148 : decode cX12_tells 148 = .ok (.iconst 0, 1) := by decide +kernel
theorem dX12_tells_149 : decode cX12_tells 149 = .ok (.ireturn, 1) := by decide +kernel
theorem dX12_tells_150 : decode cX12_tells 150 = .ok (.bipush 32, 2) := by decide +kernel
theorem dX12_tells_152 : decode cX12_tells 152 = .ok (.iconst 3, 1) := by decide +kernel
theorem dX12_tells_153 : decode cX12_tells 153 = .ok (.aload_n 0, 1) := by decide +kernel
theorem dX12_tells_154 : decode cX12_tells 154 = .ok (.getfield 16, 3) := by decide +kernel
theorem dX12_tells_157 : decode cX12_tells 157 = .ok (.iconst 1, 1) := by decide +kernel
theorem dX12_tells_158 : decode cX12_tells 158 = .ok (.iaload, 1) := by decide +kernel
theorem dX12_tells_159 : decode cX12_tells 159 = .ok (.imul, 1) := by decide +kernel
theorem dX12_tells_160 : decode cX12_tells 160 = .ok (.iadd, 1) := by decide +kernel
theorem dX12_tells_161 : decode cX12_tells 161 = .ok (.istore 4, 2) := by decide +kernel
theorem dX12_tells_163 : decode cX12_tells 163 = .ok (.aload_n 0, 1) := by decide +kernel
theorem dX12_tells_164 : decode cX12_tells 164 = .ok (.getfield 16, 3) := by decide +kernel
theorem dX12_tells_167 : decode cX12_tells 167 = .ok (.iload 4, 2) := by decide +kernel
theorem dX12_tells_169 : decode cX12_tells 169 = .ok (.iload_n 2, 1) := by decide +kernel
theorem dX12_tells_170 : decode cX12_tells 170 = .ok (.iastore, 1) := by decide +kernel
theorem dX12_tells_171 : decode cX12_tells 171 = .ok (.aload_n 0, 1) := by decide +kernel
theorem dX12_tells_172 : decode cX12_tells 172 = .ok (.getfield 16, 3) := by decide +kernel
theorem dX12_tells_175 : decode cX12_tells 175 = .ok (.iload 4, 2) := by decide +kernel
theorem dX12_tells_177 : decode cX12_tells 177 = .ok (.iconst 1, 1) := by decide +kernel
theorem dX12_tells_178 : decode cX12_tells 178 = .ok (.iadd, 1) := by decide +kernel
theorem dX12_tells_179 : decode cX12_tells 179 = .ok (.iload_n 3, 1) := by decide +kernel
theorem dX12_tells_180 : decode cX12_tells 180 = .ok (.iastore, 1) := by decide +kernel
theorem dX12_tells_181 : decode cX12_tells 181 = .ok (.aload_n 0, 1) := by decide +kernel
theorem dX12_tells_182 : decode cX12_tells 182 = .ok (.getfield 16, 3) := by decide +kernel
theorem dX12_tells_185 : decode cX12_tells 185 = .ok (.iload 4, 2) := by decide +kernel
theorem dX12_tells_187 : decode cX12_tells 187 = .ok (.iconst 2, 1) := by decide +kernel
theorem dX12_tells_188 : decode cX12_tells 188 = .ok (.iadd, 1) := by decide +kernel
theorem dX12_tells_189 : decode cX12_tells 189 = .ok (.iload_n 2, 1) := by decide +kernel
theorem dX12_tells_190 : decode cX12_tells 190 = .ok (.iastore, 1) := by decide +kernel
theorem dX12_tells_191 : decode cX12_tells 191 = .ok (.aload_n 0, 1) := by decide +kernel
theorem dX12_tells_192 : decode cX12_tells 192 = .ok (.getfield 16, 3) := by decide +kernel
theorem dX12_tells_195 : decode cX12_tells 195 = .ok (.iconst 1, 1) := by decide +kernel
theorem dX12_tells_196 : decode cX12_tells 196 = .ok (.dup2, 1) := by decide +kernel
theorem dX12_tells_197 : decode cX12_tells 197 = .ok (.iaload, 1) := by decide +kernel
theorem dX12_tells_198 : decode cX12_tells 198 = .ok (.iconst 1, 1) := by decide +kernel
theorem dX12_tells_199 : decode cX12_tells 199 = .ok (.iadd, 1) := by decide +kernel
theorem dX12_tells_200 : decode cX12_tells 200 = .ok (.iastore, 1) := by decide +kernel
theorem dX12_tells_201 : decode cX12_tells 201 = .ok (.iconst 1, 1) := by decide +kernel
theorem dX12_tells_202 : decode cX12_tells 202 = .ok (.ireturn, 1) := by decide +kernel
theorem dX12_tells_203 : decode cX12_tells 203 = .ok (.iload_n 2, 1) := by decide +kernel
theorem dX12_tells_204 : decode cX12_tells 204 = .ok (.aload_n 0, 1) := by decide +kernel
theorem dX12_tells_205 : decode cX12_tells 205 = .ok (.getfield 16, 3) := by decide +kernel
theorem dX12_tells_208 : decode cX12_tells 208 = .ok (.iconst 0, 1) := by decide +kernel
theorem dX12_tells_209 : decode cX12_tells 209 = .ok (.iaload, 1) := by decide +kernel
theorem dX12_tells_210 : decode cX12_tells 210 = .ok (.if_icmp .ge 13, 3) := by decide +kernel
theorem dX12_tells_213 : decode cX12_tells 213 = .ok (.iload_n 3, 1) := by decide +kernel
theorem dX12_tells_214 : decode cX12_tells 214 = .ok (.aload_n 0, 1) := by decide +kernel
theorem dX12_tells_215 : decode cX12_tells 215 = .ok (.getfield 16, 3) := by decide +kernel
theorem dX12_tells_218 : decode cX12_tells 218 = .ok (.iconst 0, 1) := by decide +kernel
theorem dX12_tells_219 : decode cX12_tells 219 = .ok (.iaload, 1) := by decide +kernel
theorem dX12_tells_220 : decode cX12_tells 220 = .ok (.if_icmp .lt 5, 3) := by decide +kernel
theorem dX12_tells_223 : decode cX12_tells 223 = .ok (.iconst 0, 1) := by decide +kernel
theorem dX12_tells_224 : decode cX12_tells 224 = .ok (.ireturn, 1) := by decide +kernel
theorem dX12_tells_225 : decode cX12_tells 225 = .ok (.aload_n 0, 1) := by decide +kernel
theorem dX12_tells_226 : decode cX12_tells 226 = .ok (.getfield 16, 3) := by decide +kernel
theorem dX12_tells_229 : decode cX12_tells 229 = .ok (.bipush 56, 2) := by decide +kernel
theorem dX12_tells_231 : decode cX12_tells 231 = .ok (.bipush 10, 2) := by decide +kernel
theorem dX12_tells_233 : decode cX12_tells 233 = .ok (.aload_n 0, 1) := by decide +kernel
theorem dX12_tells_234 : decode cX12_tells 234 = .ok (.getfield 37, 3) := by decide +kernel
theorem dX12_tells_237 : decode cX12_tells 237 = .ok (.iconst 2, 1) := by decide +kernel
theorem dX12_tells_238 : decode cX12_tells 238 = .ok (.iaload, 1) := by decide +kernel
theorem dX12_tells_239 : decode cX12_tells 239 = .ok (.imul, 1) := by decide +kernel
theorem dX12_tells_240 : decode cX12_tells 240 = .ok (.iadd, 1) := by decide +kernel
theorem dX12_tells_241 : decode cX12_tells 241 = .ok (.iload_n 2, 1) := by decide +kernel
theorem dX12_tells_242 : decode cX12_tells 242 = .ok (.iadd, 1) := by decide +kernel
theorem dX12_tells_243 : decode cX12_tells 243 = .ok (.iload_n 3, 1) := by decide +kernel
theorem dX12_tells_244 : decode cX12_tells 244 = .ok (.iastore, 1) := by decide +kernel
theorem dX12_tells_245 : decode cX12_tells 245 = .ok (.iconst 1, 1) := by decide +kernel
theorem dX12_tells_246 : decode cX12_tells 246 = .ok (.ireturn, 1) := by decide +kernel
theorem dX12_wrongRow_0 : decode cX12_wrongRow 0 = .ok (.iload_n 1, 1) := by decide +kernel
theorem dX12_wrongRow_1 : decode cX12_wrongRow 1 = .ok (.invokestatic 101, 3) := by decide +kernel
theorem dX12_wrongRow_4 : decode cX12_wrongRow 4 = .ok (.ifCond .ne 7, 3) := by decide +kernel
theorem dX12_wrongRow_7 : decode cX12_wrongRow 7 = .ok (.iconst (-1), 1) := by decide +kernel
theorem dX12_wrongRow_8 : decode cX12_wrongRow 8 = .ok (.goto 47, 3) := by decide +kernel
theorem dX12_wrongRow_11 : decode cX12_wrongRow 11 = .ok (.aload_n 0, 1) := by decide +kernel
theorem dX12_wrongRow_12 : decode cX12_wrongRow 12 = .ok (.getfield 19, 3) := by decide +kernel
theorem dX12_wrongRow_15 : decode cX12_wrongRow 15 = .ok (.iload_n 1, 1) := by decide +kernel
theorem dX12_wrongRow_16 : decode cX12_wrongRow 16 = .ok (.iaload, 1) := by decide +kernel
theorem dX12_wrongRow_17 : decode cX12_wrongRow 17 = .ok (.ifCond .ne 8, 3) := by decide +kernel
theorem dX12_wrongRow_20 : decode cX12_wrongRow 20 = .ok (.bipush (-11), 2) := by decide +kernel
theorem dX12_wrongRow_22 : decode cX12_wrongRow 22 = .ok (.goto 33, 3) := by decide +kernel
theorem dX12_wrongRow_25 : decode cX12_wrongRow 25 = .ok (.aload_n 0, 1) := by decide +kernel
theorem dX12_wrongRow_26 : decode cX12_wrongRow 26 = .ok (.getfield 19, 3) := by decide +kernel
theorem dX12_wrongRow_29 : decode cX12_wrongRow 29 = .ok (.iload_n 1, 1) := by decide +kernel
theorem dX12_wrongRow_30 : decode cX12_wrongRow 30 = .ok (.iaload, 1) := by decide +kernel
theorem dX12_wrongRow_31 : decode cX12_wrongRow 31 = .ok (.iconst 2, 1) := by decide +kernel
theorem dX12_wrongRow_32 : decode cX12_wrongRow 32 = .ok (.if_icmp .ne 17, 3) := by decide +kernel
theorem dX12_wrongRow_35 : decode cX12_wrongRow 35 = .ok (.iload_n 2, 1) := by decide +kernel
theorem dX12_wrongRow_36 : decode cX12_wrongRow 36 = .ok (.ifCond .lt 18, 3) := by decide +kernel
theorem dX12_wrongRow_39 : decode cX12_wrongRow 39 = .ok (.aload_n 0, 1) := by decide +kernel
theorem dX12_wrongRow_40 : decode cX12_wrongRow 40 = .ok (.getfield 22, 3) := by decide +kernel
theorem dX12_wrongRow_43 : decode cX12_wrongRow 43 = .ok (.iload_n 1, 1) := by decide +kernel
theorem dX12_wrongRow_44 : decode cX12_wrongRow 44 = .ok (.iaload, 1) := by decide +kernel
theorem dX12_wrongRow_45 : decode cX12_wrongRow 45 = .ok (.iload_n 2, 1) := by decide +kernel
theorem dX12_wrongRow_46 : decode cX12_wrongRow 46 = .ok (.if_icmp .eq 8, 3) := by decide +kernel
theorem dX12_wrongRow_49 : decode cX12_wrongRow 49 = .ok (.bipush (-12), 2) := by decide +kernel
theorem dX12_wrongRow_51 : decode cX12_wrongRow 51 = .ok (.goto 4, 3) := by decide +kernel
theorem dX12_wrongRow_54 : decode cX12_wrongRow 54 = .ok (.iconst 0, 1) := by decide +kernel
theorem dX12_wrongRow_55 : decode cX12_wrongRow 55 = .ok (.ireturn, 1) := by decide +kernel
theorem dX12_group_0 : decode cX12_group 0 = .ok (.aload_n 0, 1) := by decide +kernel
theorem dX12_group_1 : decode cX12_group 1 = .ok (.iload_n 1, 1) := by decide +kernel
theorem dX12_group_2 : decode cX12_group 2 = .ok (.iconst 0, 1) := by decide +kernel
theorem dX12_group_3 : decode cX12_group 3 = .ok (.invokevirtual 104, 3) := by decide +kernel
theorem dX12_group_6 : decode cX12_group 6 = .ok (.istore_n 2, 1) := by decide +kernel
theorem dX12_group_7 : decode cX12_group 7 = .ok (.iload_n 2, 1) := by decide +kernel
theorem dX12_group_8 : decode cX12_group 8 = .ok (.ifCond .eq 5, 3) := by decide +kernel
theorem dX12_group_11 : decode cX12_group 11 = .ok (.iload_n 2, 1) := by decide +kernel
theorem dX12_group_12 : decode cX12_group 12 = .ok (.ireturn, 1) := by decide +kernel
theorem dX12_group_13 : decode cX12_group 13 = .ok (.aload_n 0, 1) := by decide +kernel
theorem dX12_group_14 : decode cX12_group 14 = .ok (.bipush 100, 2) := by decide +kernel
theorem dX12_group_16 : decode cX12_group 16 = .ok (.iload_n 1, 1) := by decide +kernel
theorem dX12_group_17 : decode cX12_group 17 = .ok (.imul, 1) := by decide +kernel
theorem dX12_group_18 : decode cX12_group 18 = .ok (.putfield 76, 3) := by decide +kernel
theorem dX12_group_21 : decode cX12_group 21 = .ok (.aload_n 0, 1) := by decide +kernel
theorem dX12_group_22 : decode cX12_group 22 = .ok (.aload_n 0, 1) := by decide +kernel
theorem dX12_group_23 : decode cX12_group 23 = .ok (.getfield 25, 3) := by decide +kernel
theorem dX12_group_26 : decode cX12_group 26 = .ok (.iload_n 1, 1) := by decide +kernel
theorem dX12_group_27 : decode cX12_group 27 = .ok (.iaload, 1) := by decide +kernel
theorem dX12_group_28 : decode cX12_group 28 = .ok (.putfield 73, 3) := by decide +kernel
theorem dX12_group_31 : decode cX12_group 31 = .ok (.aload_n 0, 1) := by decide +kernel
theorem dX12_group_32 : decode cX12_group 32 = .ok (.iconst 0, 1) := by decide +kernel
theorem dX12_group_33 : decode cX12_group 33 = .ok (.putfield 70, 3) := by decide +kernel
theorem dX12_group_36 : decode cX12_group 36 = .ok (.iconst 0, 1) := by decide +kernel
theorem dX12_group_37 : decode cX12_group 37 = .ok (.istore_n 3, 1) := by decide +kernel
theorem dX12_group_38 : decode cX12_group 38 = .ok (.aload_n 0, 1) := by decide +kernel
theorem dX12_group_39 : decode cX12_group 39 = .ok (.invokevirtual 108, 3) := by decide +kernel
theorem dX12_group_42 : decode cX12_group 42 = .ok (.ifCond .ne 12, 3) := by decide +kernel
theorem dX12_group_45 : decode cX12_group 45 = .ok (.sipush (-1000), 3) := by decide +kernel
theorem dX12_group_48 : decode cX12_group 48 = .ok (.aload_n 0, 1) := by decide +kernel
theorem dX12_group_49 : decode cX12_group 49 = .ok (.getfield 70, 3) := by decide +kernel
theorem dX12_group_52 : decode cX12_group 52 = .ok (.isub, 1) := by decide +kernel
theorem dX12_group_53 : decode cX12_group 53 = .ok (.ireturn, 1) := by decide +kernel
theorem dX12_group_54 : decode cX12_group 54 = .ok (.iinc 3 1, 3) := by decide +kernel
theorem dX12_group_57 : decode cX12_group 57 = .ok (.aload_n 0, 1) := by decide +kernel
theorem dX12_group_58 : decode cX12_group 58 = .ok (.getfield 70, 3) := by decide +kernel
theorem dX12_group_61 : decode cX12_group 61 = .ok (.aload_n 0, 1) := by decide +kernel
theorem dX12_group_62 : decode cX12_group 62 = .ok (.getfield 73, 3) := by decide +kernel
theorem dX12_group_65 : decode cX12_group 65 = .ok (.if_icmp .lt (-27), 3) := by decide +kernel
theorem dX12_group_68 : decode cX12_group 68 = .ok (.iconst 0, 1) := by decide +kernel
theorem dX12_group_69 : decode cX12_group 69 = .ok (.istore 4, 2) := by decide +kernel
theorem dX12_group_71 : decode cX12_group 71 = .ok (.iload 4, 2) := by decide +kernel
theorem dX12_group_73 : decode cX12_group 73 = .ok (.sipush 156, 3) := by decide +kernel
theorem dX12_group_76 : decode cX12_group 76 = .ok (.if_icmp .ge 23, 3) := by decide +kernel
theorem dX12_group_79 : decode cX12_group 79 = .ok (.aload_n 0, 1) := by decide +kernel
theorem dX12_group_80 : decode cX12_group 80 = .ok (.getfield 16, 3) := by decide +kernel
theorem dX12_group_83 : decode cX12_group 83 = .ok (.iload 4, 2) := by decide +kernel
theorem dX12_group_85 : decode cX12_group 85 = .ok (.aload_n 0, 1) := by decide +kernel
theorem dX12_group_86 : decode cX12_group 86 = .ok (.getfield 9, 3) := by decide +kernel
theorem dX12_group_89 : decode cX12_group 89 = .ok (.iload 4, 2) := by decide +kernel
theorem dX12_group_91 : decode cX12_group 91 = .ok (.iaload, 1) := by decide +kernel
theorem dX12_group_92 : decode cX12_group 92 = .ok (.iastore, 1) := by decide +kernel
theorem dX12_group_93 : decode cX12_group 93 = .ok (.iinc 4 1, 3) := by decide +kernel
theorem dX12_group_96 : decode cX12_group 96 = .ok (.goto (-25), 3) := by decide +kernel
theorem dX12_group_99 : decode cX12_group 99 = .ok (.aload_n 0, 1) := by decide +kernel
theorem dX12_group_100 : decode cX12_group 100 = .ok (.iconst 0, 1) := by decide +kernel
theorem dX12_group_101 : decode cX12_group 101 = .ok (.putfield 70, 3) := by decide +kernel
theorem dX12_group_104 : decode cX12_group 104 = .ok (.aload_n 0, 1) := by decide +kernel
theorem dX12_group_105 : decode cX12_group 105 = .ok (.getfield 70, 3) := by decide +kernel
theorem dX12_group_108 : decode cX12_group 108 = .ok (.aload_n 0, 1) := by decide +kernel
theorem dX12_group_109 : decode cX12_group 109 = .ok (.getfield 73, 3) := by decide +kernel
theorem dX12_group_112 : decode cX12_group 112 = .ok (.if_icmp .ge 40, 3) := by decide +kernel
theorem dX12_group_115 : decode cX12_group 115 = .ok (.aload_n 0, 1) := by decide +kernel
theorem dX12_group_116 : decode cX12_group 116 = .ok (.getfield 70, 3) := by decide +kernel
theorem dX12_group_119 : decode cX12_group 119 = .ok (.istore 4, 2) := by decide +kernel
theorem dX12_group_121 : decode cX12_group 121 = .ok (.aload_n 0, 1) := by decide +kernel
theorem dX12_group_122 : decode cX12_group 122 = .ok (.invokevirtual 79, 3) := by decide +kernel
theorem dX12_group_125 : decode cX12_group 125 = .ok (.istore 5, 2) := by decide +kernel
theorem dX12_group_127 : decode cX12_group 127 = .ok (.aload_n 0, 1) := by decide +kernel
theorem dX12_group_128 : decode cX12_group 128 = .ok (.invokevirtual 108, 3) := by decide +kernel
theorem dX12_group_131 : decode cX12_group 131 = .ok (.istore 6, 2) := by decide +kernel
theorem dX12_group_133 : decode cX12_group 133 = .ok (.aload_n 0, 1) := by decide +kernel
theorem dX12_group_134 : decode cX12_group 134 = .ok (.iload 5, 2) := by decide +kernel
theorem dX12_group_136 : decode cX12_group 136 = .ok (.invokevirtual 111, 3) := by decide +kernel
theorem dX12_group_139 : decode cX12_group 139 = .ok (.ifCond .ne 10, 3) := by decide +kernel
theorem dX12_group_142 : decode cX12_group 142 = .ok (.sipush (-2000), 3) := by decide +kernel
theorem dX12_group_145 : decode cX12_group 145 = .ok (.iload 4, 2) := by decide +kernel
theorem dX12_group_147 : decode cX12_group 147 = .ok (.isub, 1) := by decide +kernel
theorem dX12_group_148 : decode cX12_group 148 = .ok (.ireturn, 1) := by decide +kernel
theorem dX12_group_149 : decode cX12_group 149 = .ok (.goto (-45), 3) := by decide +kernel
theorem dX12_group_152 : decode cX12_group 152 = .ok (.iconst 0, 1) := by decide +kernel
theorem dX12_group_153 : decode cX12_group 153 = .ok (.istore 4, 2) := by decide +kernel
theorem dX12_group_155 : decode cX12_group 155 = .ok (.iload 4, 2) := by decide +kernel
theorem dX12_group_157 : decode cX12_group 157 = .ok (.sipush 156, 3) := by decide +kernel
theorem dX12_group_160 : decode cX12_group 160 = .ok (.if_icmp .ge 23, 3) := by decide +kernel
theorem dX12_group_163 : decode cX12_group 163 = .ok (.aload_n 0, 1) := by decide +kernel
theorem dX12_group_164 : decode cX12_group 164 = .ok (.getfield 9, 3) := by decide +kernel
theorem dX12_group_167 : decode cX12_group 167 = .ok (.iload 4, 2) := by decide +kernel
theorem dX12_group_169 : decode cX12_group 169 = .ok (.aload_n 0, 1) := by decide +kernel
theorem dX12_group_170 : decode cX12_group 170 = .ok (.getfield 16, 3) := by decide +kernel
theorem dX12_group_173 : decode cX12_group 173 = .ok (.iload 4, 2) := by decide +kernel
theorem dX12_group_175 : decode cX12_group 175 = .ok (.iaload, 1) := by decide +kernel
theorem dX12_group_176 : decode cX12_group 176 = .ok (.iastore, 1) := by decide +kernel
theorem dX12_group_177 : decode cX12_group 177 = .ok (.iinc 4 1, 3) := by decide +kernel
theorem dX12_group_180 : decode cX12_group 180 = .ok (.goto (-25), 3) := by decide +kernel
theorem dX12_group_183 : decode cX12_group 183 = .ok (.iload_n 3, 1) := by decide +kernel
theorem dX12_group_184 : decode cX12_group 184 = .ok (.ireturn, 1) := by decide +kernel
theorem dX12_costBy_0 : decode cX12_costBy 0 = .ok (.iload_n 0, 1) := by decide +kernel
theorem dX12_costBy_1 : decode cX12_costBy 1 = .ok (.tableswitch 66 1 7 #[43, 46, 48, 50, 53, 55, 60], 43) := by decide +kernel
theorem dX12_costBy_44 : decode cX12_costBy 44 = .ok (.bipush 8, 2) := by decide +kernel
theorem dX12_costBy_46 : decode cX12_costBy 46 = .ok (.ireturn, 1) := by decide +kernel
theorem dX12_costBy_47 : decode cX12_costBy 47 = .ok (.iconst 5, 1) := by decide +kernel
theorem dX12_costBy_48 : decode cX12_costBy 48 = .ok (.ireturn, 1) := by decide +kernel
theorem dX12_costBy_49 : decode cX12_costBy 49 = .ok (.iload_n 1, 1) := by decide +kernel
theorem dX12_costBy_50 : decode cX12_costBy 50 = .ok (.ireturn, 1) := by decide +kernel
theorem dX12_costBy_51 : decode cX12_costBy 51 = .ok (.bipush 12, 2) := by decide +kernel
theorem dX12_costBy_53 : decode cX12_costBy 53 = .ok (.ireturn, 1) := by decide +kernel
theorem dX12_costBy_54 : decode cX12_costBy 54 = .ok (.iconst 4, 1) := by decide +kernel
theorem dX12_costBy_55 : decode cX12_costBy 55 = .ok (.ireturn, 1) := by decide +kernel
theorem dX12_costBy_56 : decode cX12_costBy 56 = .ok (.bipush 12, 2) := by decide +kernel
theorem dX12_costBy_58 : decode cX12_costBy 58 = .ok (.iload_n 1, 1) := by decide +kernel
theorem dX12_costBy_59 : decode cX12_costBy 59 = .ok (.iadd, 1) := by decide +kernel
theorem dX12_costBy_60 : decode cX12_costBy 60 = .ok (.ireturn, 1) := by decide +kernel
theorem dX12_costBy_61 : decode cX12_costBy 61 = .ok (.iconst 2, 1) := by decide +kernel
theorem dX12_costBy_62 : decode cX12_costBy 62 = .ok (.iload_n 1, 1) := by decide +kernel
theorem dX12_costBy_63 : decode cX12_costBy 63 = .ok (.imul, 1) := by decide +kernel
theorem dX12_costBy_64 : decode cX12_costBy 64 = .ok (.iconst 1, 1) := by decide +kernel
theorem dX12_costBy_65 : decode cX12_costBy 65 = .ok (.iadd, 1) := by decide +kernel
theorem dX12_costBy_66 : decode cX12_costBy 66 = .ok (.ireturn, 1) := by decide +kernel
theorem dX12_costBy_67 : decode cX12_costBy 67 = .ok (.iconst 0, 1) := by decide +kernel
theorem dX12_costBy_68 : decode cX12_costBy 68 = .ok (.ireturn, 1) := by decide +kernel
theorem dX12_way_0 : decode cX12_way 0 = .ok (.aload_n 0, 1) := by decide +kernel
theorem dX12_way_1 : decode cX12_way 1 = .ok (.iload_n 1, 1) := by decide +kernel
theorem dX12_way_2 : decode cX12_way 2 = .ok (.invokevirtual 114, 3) := by decide +kernel
theorem dX12_way_5 : decode cX12_way 5 = .ok (.ifCond .ne 7, 3) := by decide +kernel
theorem dX12_way_8 : decode cX12_way 8 = .ok (.iconst (-1), 1) := by decide +kernel
theorem dX12_way_9 : decode cX12_way 9 = .ok (.goto 48, 3) := by decide +kernel
theorem dX12_way_12 : decode cX12_way 12 = .ok (.iload_n 2, 1) := by decide +kernel
theorem dX12_way_13 : decode cX12_way 13 = .ok (.i2l, 1) := by decide +kernel
theorem dX12_way_14 : decode cX12_way 14 = .ok (.lconst 0, 1) := by decide +kernel
theorem dX12_way_15 : decode cX12_way 15 = .ok (.ldc2_w 117, 3) := by decide +kernel
theorem dX12_way_18 : decode cX12_way 18 = .ok (.invokestatic 62, 3) := by decide +kernel
theorem dX12_way_21 : decode cX12_way 21 = .ok (.ifCond .eq 12, 3) := by decide +kernel
theorem dX12_way_24 : decode cX12_way 24 = .ok (.aload_n 0, 1) := by decide +kernel
theorem dX12_way_25 : decode cX12_way 25 = .ok (.iload_n 1, 1) := by decide +kernel
theorem dX12_way_26 : decode cX12_way 26 = .ok (.iload_n 2, 1) := by decide +kernel
theorem dX12_way_27 : decode cX12_way 27 = .ok (.invokevirtual 119, 3) := by decide +kernel
theorem dX12_way_30 : decode cX12_way 30 = .ok (.goto 27, 3) := by decide +kernel
theorem dX12_way_33 : decode cX12_way 33 = .ok (.iload_n 2, 1) := by decide +kernel
theorem dX12_way_34 : decode cX12_way 34 = .ok (.iconst 3, 1) := by decide +kernel
theorem dX12_way_35 : decode cX12_way 35 = .ok (.if_icmp .ne 21, 3) := by decide +kernel
theorem dX12_way_38 : decode cX12_way 38 = .ok (.aload_n 0, 1) := by decide +kernel
theorem dX12_way_39 : decode cX12_way 39 = .ok (.iload_n 1, 1) := by decide +kernel
theorem dX12_way_40 : decode cX12_way 40 = .ok (.iconst 0, 1) := by decide +kernel
theorem dX12_way_41 : decode cX12_way 41 = .ok (.invokevirtual 119, 3) := by decide +kernel
theorem dX12_way_44 : decode cX12_way 44 = .ok (.aload_n 0, 1) := by decide +kernel
theorem dX12_way_45 : decode cX12_way 45 = .ok (.iload_n 1, 1) := by decide +kernel
theorem dX12_way_46 : decode cX12_way 46 = .ok (.iconst 1, 1) := by decide +kernel
theorem dX12_way_47 : decode cX12_way 47 = .ok (.invokevirtual 119, 3) := by decide +kernel
theorem dX12_way_50 : decode cX12_way 50 = .ok (.invokestatic 122, 3) := by decide +kernel
theorem dX12_way_53 : decode cX12_way 53 = .ok (.goto 4, 3) := by decide +kernel
theorem dX12_way_56 : decode cX12_way 56 = .ok (.iconst (-1), 1) := by decide +kernel
theorem dX12_way_57 : decode cX12_way 57 = .ok (.ireturn, 1) := by decide +kernel
theorem dX12_child_0 : decode cX12_child 0 = .ok (.aload_n 0, 1) := by decide +kernel
theorem dX12_child_1 : decode cX12_child 1 = .ok (.iload_n 1, 1) := by decide +kernel
theorem dX12_child_2 : decode cX12_child 2 = .ok (.invokevirtual 125, 3) := by decide +kernel
theorem dX12_child_5 : decode cX12_child 5 = .ok (.ifCond .eq 24, 3) := by decide +kernel
theorem dX12_child_8 : decode cX12_child 8 = .ok (.iload_n 2, 1) := by decide +kernel
theorem dX12_child_9 : decode cX12_child 9 = .ok (.i2l, 1) := by decide +kernel
theorem dX12_child_10 : decode cX12_child 10 = .ok (.lconst 0, 1) := by decide +kernel
theorem dX12_child_11 : decode cX12_child 11 = .ok (.ldc2_w 117, 3) := by decide +kernel
theorem dX12_child_14 : decode cX12_child 14 = .ok (.invokestatic 62, 3) := by decide +kernel
theorem dX12_child_17 : decode cX12_child 17 = .ok (.ifCond .eq 12, 3) := by decide +kernel
theorem dX12_child_20 : decode cX12_child 20 = .ok (.aload_n 0, 1) := by decide +kernel
theorem dX12_child_21 : decode cX12_child 21 = .ok (.iload_n 1, 1) := by decide +kernel
theorem dX12_child_22 : decode cX12_child 22 = .ok (.iload_n 2, 1) := by decide +kernel
theorem dX12_child_23 : decode cX12_child 23 = .ok (.invokevirtual 128, 3) := by decide +kernel
theorem dX12_child_26 : decode cX12_child 26 = .ok (.goto 4, 3) := by decide +kernel
theorem dX12_child_29 : decode cX12_child 29 = .ok (.iconst (-1), 1) := by decide +kernel
theorem dX12_child_30 : decode cX12_child 30 = .ok (.ireturn, 1) := by decide +kernel
theorem dX12_saidOf_0 : decode cX12_saidOf 0 = .ok (.aload_n 0, 1) := by decide +kernel
theorem dX12_saidOf_1 : decode cX12_saidOf 1 = .ok (.getfield 9, 3) := by decide +kernel
theorem dX12_saidOf_4 : decode cX12_saidOf 4 = .ok (.bipush 56, 2) := by decide +kernel
theorem dX12_saidOf_6 : decode cX12_saidOf 6 = .ok (.bipush 10, 2) := by decide +kernel
theorem dX12_saidOf_8 : decode cX12_saidOf 8 = .ok (.iload_n 1, 1) := by decide +kernel
theorem dX12_saidOf_9 : decode cX12_saidOf 9 = .ok (.imul, 1) := by decide +kernel
theorem dX12_saidOf_10 : decode cX12_saidOf 10 = .ok (.iadd, 1) := by decide +kernel
theorem dX12_saidOf_11 : decode cX12_saidOf 11 = .ok (.iload_n 2, 1) := by decide +kernel
theorem dX12_saidOf_12 : decode cX12_saidOf 12 = .ok (.iadd, 1) := by decide +kernel
theorem dX12_saidOf_13 : decode cX12_saidOf 13 = .ok (.iaload, 1) := by decide +kernel
theorem dX12_saidOf_14 : decode cX12_saidOf 14 = .ok (.istore_n 3, 1) := by decide +kernel
theorem dX12_saidOf_15 : decode cX12_saidOf 15 = .ok (.iload_n 3, 1) := by decide +kernel
theorem dX12_saidOf_16 : decode cX12_saidOf 16 = .ok (.ifCond .ge 7, 3) := by decide +kernel
theorem dX12_saidOf_19 : decode cX12_saidOf 19 = .ok (.iload_n 2, 1) := by decide +kernel
theorem dX12_saidOf_20 : decode cX12_saidOf 20 = .ok (.goto 4, 3) := by decide +kernel
theorem dX12_saidOf_23 : decode cX12_saidOf 23 = .ok (.iload_n 3, 1) := by decide +kernel
theorem dX12_saidOf_24 : decode cX12_saidOf 24 = .ok (.ireturn, 1) := by decide +kernel
theorem dX12_told_0 : decode cX12_told 0 = .ok (.iload_n 1, 1) := by decide +kernel
theorem dX12_told_1 : decode cX12_told 1 = .ok (.i2l, 1) := by decide +kernel
theorem dX12_told_2 : decode cX12_told 2 = .ok (.lconst 0, 1) := by decide +kernel
theorem dX12_told_3 : decode cX12_told 3 = .ok (.ldc2_w 131, 3) := by decide +kernel
theorem dX12_told_6 : decode cX12_told 6 = .ok (.invokestatic 62, 3) := by decide +kernel
theorem dX12_told_9 : decode cX12_told 9 = .ok (.ifCond .eq 20, 3) := by decide +kernel
theorem dX12_told_12 : decode cX12_told 12 = .ok (.aload_n 0, 1) := by decide +kernel
theorem dX12_told_13 : decode cX12_told 13 = .ok (.iload_n 2, 1) := by decide +kernel
theorem dX12_told_14 : decode cX12_told 14 = .ok (.invokevirtual 114, 3) := by decide +kernel
theorem dX12_told_17 : decode cX12_told 17 = .ok (.ifCond .eq 12, 3) := by decide +kernel
theorem dX12_told_20 : decode cX12_told 20 = .ok (.aload_n 0, 1) := by decide +kernel
theorem dX12_told_21 : decode cX12_told 21 = .ok (.iload_n 1, 1) := by decide +kernel
theorem dX12_told_22 : decode cX12_told 22 = .ok (.iload_n 2, 1) := by decide +kernel
theorem dX12_told_23 : decode cX12_told 23 = .ok (.invokevirtual 133, 3) := by decide +kernel
theorem dX12_told_26 : decode cX12_told 26 = .ok (.goto 4, 3) := by decide +kernel
theorem dX12_told_29 : decode cX12_told 29 = .ok (.iconst (-1), 1) := by decide +kernel
theorem dX12_told_30 : decode cX12_told 30 = .ok (.ireturn, 1) := by decide +kernel
theorem dX12_slips_0 : decode cX12_slips 0 = .ok (.aload_n 0, 1) := by decide +kernel
theorem dX12_slips_1 : decode cX12_slips 1 = .ok (.iload_n 1, 1) := by decide +kernel
theorem dX12_slips_2 : decode cX12_slips 2 = .ok (.invokevirtual 125, 3) := by decide +kernel
theorem dX12_slips_5 : decode cX12_slips 5 = .ok (.ifCond .eq 15, 3) := by decide +kernel
theorem dX12_slips_8 : decode cX12_slips 8 = .ok (.iload_n 2, 1) := by decide +kernel
theorem dX12_slips_9 : decode cX12_slips 9 = .ok (.i2l, 1) := by decide +kernel
theorem dX12_slips_10 : decode cX12_slips 10 = .ok (.lconst 0, 1) := by decide +kernel
theorem dX12_slips_11 : decode cX12_slips 11 = .ok (.ldc2_w 136, 3) := by decide +kernel
theorem dX12_slips_14 : decode cX12_slips 14 = .ok (.invokestatic 62, 3) := by decide +kernel
theorem dX12_slips_17 : decode cX12_slips 17 = .ok (.ifCond .ne 5, 3) := by decide +kernel
theorem dX12_slips_20 : decode cX12_slips 20 = .ok (.iconst (-1), 1) := by decide +kernel
theorem dX12_slips_21 : decode cX12_slips 21 = .ok (.ireturn, 1) := by decide +kernel
theorem dX12_slips_22 : decode cX12_slips 22 = .ok (.aload_n 0, 1) := by decide +kernel
theorem dX12_slips_23 : decode cX12_slips 23 = .ok (.iload_n 1, 1) := by decide +kernel
theorem dX12_slips_24 : decode cX12_slips 24 = .ok (.iconst 1, 1) := by decide +kernel
theorem dX12_slips_25 : decode cX12_slips 25 = .ok (.invokevirtual 128, 3) := by decide +kernel
theorem dX12_slips_28 : decode cX12_slips 28 = .ok (.istore_n 3, 1) := by decide +kernel
theorem dX12_slips_29 : decode cX12_slips 29 = .ok (.aload_n 0, 1) := by decide +kernel
theorem dX12_slips_30 : decode cX12_slips 30 = .ok (.getfield 9, 3) := by decide +kernel
theorem dX12_slips_33 : decode cX12_slips 33 = .ok (.bipush 32, 2) := by decide +kernel
theorem dX12_slips_35 : decode cX12_slips 35 = .ok (.iconst 3, 1) := by decide +kernel
theorem dX12_slips_36 : decode cX12_slips 36 = .ok (.iload_n 1, 1) := by decide +kernel
theorem dX12_slips_37 : decode cX12_slips 37 = .ok (.imul, 1) := by decide +kernel
theorem dX12_slips_38 : decode cX12_slips 38 = .ok (.iadd, 1) := by decide +kernel
theorem dX12_slips_39 : decode cX12_slips 39 = .ok (.iconst 1, 1) := by decide +kernel
theorem dX12_slips_40 : decode cX12_slips 40 = .ok (.iadd, 1) := by decide +kernel
theorem dX12_slips_41 : decode cX12_slips 41 = .ok (.iload_n 2, 1) := by decide +kernel
theorem dX12_slips_42 : decode cX12_slips 42 = .ok (.iastore, 1) := by decide +kernel
theorem dX12_slips_43 : decode cX12_slips 43 = .ok (.iload_n 3, 1) := by decide +kernel
theorem dX12_slips_44 : decode cX12_slips 44 = .ok (.ireturn, 1) := by decide +kernel
theorem dX12_borrows_0 : decode cX12_borrows 0 = .ok (.iload_n 1, 1) := by decide +kernel
theorem dX12_borrows_1 : decode cX12_borrows 1 = .ok (.iconst 1, 1) := by decide +kernel
theorem dX12_borrows_2 : decode cX12_borrows 2 = .ok (.iadd, 1) := by decide +kernel
theorem dX12_borrows_3 : decode cX12_borrows 3 = .ok (.istore_n 3, 1) := by decide +kernel
theorem dX12_borrows_4 : decode cX12_borrows 4 = .ok (.iload_n 3, 1) := by decide +kernel
theorem dX12_borrows_5 : decode cX12_borrows 5 = .ok (.iconst 4, 1) := by decide +kernel
theorem dX12_borrows_6 : decode cX12_borrows 6 = .ok (.if_icmp .ge 18, 3) := by decide +kernel
theorem dX12_borrows_9 : decode cX12_borrows 9 = .ok (.aload_n 0, 1) := by decide +kernel
theorem dX12_borrows_10 : decode cX12_borrows 10 = .ok (.getfield 40, 3) := by decide +kernel
theorem dX12_borrows_13 : decode cX12_borrows 13 = .ok (.iload_n 3, 1) := by decide +kernel
theorem dX12_borrows_14 : decode cX12_borrows 14 = .ok (.iaload, 1) := by decide +kernel
theorem dX12_borrows_15 : decode cX12_borrows 15 = .ok (.ifCond .ne 9, 3) := by decide +kernel
theorem dX12_borrows_18 : decode cX12_borrows 18 = .ok (.iinc 3 1, 3) := by decide +kernel
theorem dX12_borrows_21 : decode cX12_borrows 21 = .ok (.goto (-17), 3) := by decide +kernel
theorem dX12_borrows_24 : decode cX12_borrows 24 = .ok (.iload_n 3, 1) := by decide +kernel
theorem dX12_borrows_25 : decode cX12_borrows 25 = .ok (.iconst 4, 1) := by decide +kernel
theorem dX12_borrows_26 : decode cX12_borrows 26 = .ok (.if_icmp .ne 5, 3) := by decide +kernel
theorem dX12_borrows_29 : decode cX12_borrows 29 = .ok (.iconst 0, 1) := by decide +kernel
theorem dX12_borrows_30 : decode cX12_borrows 30 = .ok (.ireturn, 1) := by decide +kernel
theorem dX12_borrows_31 : decode cX12_borrows 31 = .ok (.aload_n 0, 1) := by decide +kernel
theorem dX12_borrows_32 : decode cX12_borrows 32 = .ok (.getfield 40, 3) := by decide +kernel
theorem dX12_borrows_35 : decode cX12_borrows 35 = .ok (.iload_n 3, 1) := by decide +kernel
theorem dX12_borrows_36 : decode cX12_borrows 36 = .ok (.dup2, 1) := by decide +kernel
theorem dX12_borrows_37 : decode cX12_borrows 37 = .ok (.iaload, 1) := by decide +kernel
theorem dX12_borrows_38 : decode cX12_borrows 38 = .ok (.iconst 1, 1) := by decide +kernel
theorem dX12_borrows_39 : decode cX12_borrows 39 = .ok (.isub, 1) := by decide +kernel
theorem dX12_borrows_40 : decode cX12_borrows 40 = .ok (.iastore, 1) := by decide +kernel
theorem dX12_borrows_41 : decode cX12_borrows 41 = .ok (.iload_n 1, 1) := by decide +kernel
theorem dX12_borrows_42 : decode cX12_borrows 42 = .ok (.iconst 1, 1) := by decide +kernel
theorem dX12_borrows_43 : decode cX12_borrows 43 = .ok (.iadd, 1) := by decide +kernel
theorem dX12_borrows_44 : decode cX12_borrows 44 = .ok (.istore 4, 2) := by decide +kernel
theorem dX12_borrows_46 : decode cX12_borrows 46 = .ok (.iload 4, 2) := by decide +kernel
theorem dX12_borrows_48 : decode cX12_borrows 48 = .ok (.iload_n 3, 1) := by decide +kernel
theorem dX12_borrows_49 : decode cX12_borrows 49 = .ok (.if_icmp .ge 22, 3) := by decide +kernel
theorem dX12_borrows_52 : decode cX12_borrows 52 = .ok (.iload_n 2, 1) := by decide +kernel
theorem dX12_borrows_53 : decode cX12_borrows 53 = .ok (.ifCond .eq 18, 3) := by decide +kernel
theorem dX12_borrows_56 : decode cX12_borrows 56 = .ok (.aload_n 0, 1) := by decide +kernel
theorem dX12_borrows_57 : decode cX12_borrows 57 = .ok (.getfield 40, 3) := by decide +kernel
theorem dX12_borrows_60 : decode cX12_borrows 60 = .ok (.iload 4, 2) := by decide +kernel
theorem dX12_borrows_62 : decode cX12_borrows 62 = .ok (.bipush 9, 2) := by decide +kernel
theorem dX12_borrows_64 : decode cX12_borrows 64 = .ok (.iastore, 1) := by decide +kernel
theorem dX12_borrows_65 : decode cX12_borrows 65 = .ok (.iinc 4 1, 3) := by decide +kernel
theorem dX12_borrows_68 : decode cX12_borrows 68 = .ok (.goto (-22), 3) := by decide +kernel
theorem dX12_borrows_71 : decode cX12_borrows 71 = .ok (.iconst 1, 1) := by decide +kernel
theorem dX12_borrows_72 : decode cX12_borrows 72 = .ok (.ireturn, 1) := by decide +kernel
theorem dX12_byBorrowing_0 : decode cX12_byBorrowing 0 = .ok (.aload_n 0, 1) := by decide +kernel
theorem dX12_byBorrowing_1 : decode cX12_byBorrowing 1 = .ok (.iload_n 1, 1) := by decide +kernel
theorem dX12_byBorrowing_2 : decode cX12_byBorrowing 2 = .ok (.iload_n 2, 1) := by decide +kernel
theorem dX12_byBorrowing_3 : decode cX12_byBorrowing 3 = .ok (.invokevirtual 138, 3) := by decide +kernel
theorem dX12_byBorrowing_6 : decode cX12_byBorrowing 6 = .ok (.ifCond .eq 22, 3) := by decide +kernel
theorem dX12_byBorrowing_9 : decode cX12_byBorrowing 9 = .ok (.aload_n 0, 1) := by decide +kernel
theorem dX12_byBorrowing_10 : decode cX12_byBorrowing 10 = .ok (.getfield 40, 3) := by decide +kernel
theorem dX12_byBorrowing_13 : decode cX12_byBorrowing 13 = .ok (.iload_n 1, 1) := by decide +kernel
theorem dX12_byBorrowing_14 : decode cX12_byBorrowing 14 = .ok (.iaload, 1) := by decide +kernel
theorem dX12_byBorrowing_15 : decode cX12_byBorrowing 15 = .ok (.bipush 10, 2) := by decide +kernel
theorem dX12_byBorrowing_17 : decode cX12_byBorrowing 17 = .ok (.iadd, 1) := by decide +kernel
theorem dX12_byBorrowing_18 : decode cX12_byBorrowing 18 = .ok (.aload_n 0, 1) := by decide +kernel
theorem dX12_byBorrowing_19 : decode cX12_byBorrowing 19 = .ok (.getfield 43, 3) := by decide +kernel
theorem dX12_byBorrowing_22 : decode cX12_byBorrowing 22 = .ok (.iload_n 1, 1) := by decide +kernel
theorem dX12_byBorrowing_23 : decode cX12_byBorrowing 23 = .ok (.iaload, 1) := by decide +kernel
theorem dX12_byBorrowing_24 : decode cX12_byBorrowing 24 = .ok (.isub, 1) := by decide +kernel
theorem dX12_byBorrowing_25 : decode cX12_byBorrowing 25 = .ok (.goto 4, 3) := by decide +kernel
theorem dX12_byBorrowing_28 : decode cX12_byBorrowing 28 = .ok (.iconst 0, 1) := by decide +kernel
theorem dX12_byBorrowing_29 : decode cX12_byBorrowing 29 = .ok (.ireturn, 1) := by decide +kernel
theorem dX12_whenStuck_0 : decode cX12_whenStuck 0 = .ok (.iload_n 1, 1) := by decide +kernel
theorem dX12_whenStuck_1 : decode cX12_whenStuck 1 = .ok (.tableswitch 209 1 7 #[43, 57, 59, 76, 83, 115, 183], 43) := by decide +kernel
theorem dX12_whenStuck_44 : decode cX12_whenStuck 44 = .ok (.aload_n 0, 1) := by decide +kernel
theorem dX12_whenStuck_45 : decode cX12_whenStuck 45 = .ok (.getfield 43, 3) := by decide +kernel
theorem dX12_whenStuck_48 : decode cX12_whenStuck 48 = .ok (.iload_n 3, 1) := by decide +kernel
theorem dX12_whenStuck_49 : decode cX12_whenStuck 49 = .ok (.iaload, 1) := by decide +kernel
theorem dX12_whenStuck_50 : decode cX12_whenStuck 50 = .ok (.aload_n 0, 1) := by decide +kernel
theorem dX12_whenStuck_51 : decode cX12_whenStuck 51 = .ok (.getfield 40, 3) := by decide +kernel
theorem dX12_whenStuck_54 : decode cX12_whenStuck 54 = .ok (.iload_n 3, 1) := by decide +kernel
theorem dX12_whenStuck_55 : decode cX12_whenStuck 55 = .ok (.iaload, 1) := by decide +kernel
theorem dX12_whenStuck_56 : decode cX12_whenStuck 56 = .ok (.isub, 1) := by decide +kernel
theorem dX12_whenStuck_57 : decode cX12_whenStuck 57 = .ok (.ireturn, 1) := by decide +kernel
theorem dX12_whenStuck_58 : decode cX12_whenStuck 58 = .ok (.iconst 0, 1) := by decide +kernel
theorem dX12_whenStuck_59 : decode cX12_whenStuck 59 = .ok (.ireturn, 1) := by decide +kernel
theorem dX12_whenStuck_60 : decode cX12_whenStuck 60 = .ok (.aload_n 0, 1) := by decide +kernel
theorem dX12_whenStuck_61 : decode cX12_whenStuck 61 = .ok (.getfield 40, 3) := by decide +kernel
theorem dX12_whenStuck_64 : decode cX12_whenStuck 64 = .ok (.iload_n 3, 1) := by decide +kernel
theorem dX12_whenStuck_65 : decode cX12_whenStuck 65 = .ok (.iaload, 1) := by decide +kernel
theorem dX12_whenStuck_66 : decode cX12_whenStuck 66 = .ok (.bipush 10, 2) := by decide +kernel
theorem dX12_whenStuck_68 : decode cX12_whenStuck 68 = .ok (.iadd, 1) := by decide +kernel
theorem dX12_whenStuck_69 : decode cX12_whenStuck 69 = .ok (.aload_n 0, 1) := by decide +kernel
theorem dX12_whenStuck_70 : decode cX12_whenStuck 70 = .ok (.getfield 43, 3) := by decide +kernel
theorem dX12_whenStuck_73 : decode cX12_whenStuck 73 = .ok (.iload_n 3, 1) := by decide +kernel
theorem dX12_whenStuck_74 : decode cX12_whenStuck 74 = .ok (.iaload, 1) := by decide +kernel
theorem dX12_whenStuck_75 : decode cX12_whenStuck 75 = .ok (.isub, 1) := by decide +kernel
theorem dX12_whenStuck_76 : decode cX12_whenStuck 76 = .ok (.ireturn, 1) := by decide +kernel
theorem dX12_whenStuck_77 : decode cX12_whenStuck 77 = .ok (.aload_n 0, 1) := by decide +kernel
theorem dX12_whenStuck_78 : decode cX12_whenStuck 78 = .ok (.iload_n 3, 1) := by decide +kernel
theorem dX12_whenStuck_79 : decode cX12_whenStuck 79 = .ok (.iconst 0, 1) := by decide +kernel
theorem dX12_whenStuck_80 : decode cX12_whenStuck 80 = .ok (.invokevirtual 142, 3) := by decide +kernel
theorem dX12_whenStuck_83 : decode cX12_whenStuck 83 = .ok (.ireturn, 1) := by decide +kernel
theorem dX12_whenStuck_84 : decode cX12_whenStuck 84 = .ok (.aload_n 0, 1) := by decide +kernel
theorem dX12_whenStuck_85 : decode cX12_whenStuck 85 = .ok (.getfield 40, 3) := by decide +kernel
theorem dX12_whenStuck_88 : decode cX12_whenStuck 88 = .ok (.iload_n 3, 1) := by decide +kernel
theorem dX12_whenStuck_89 : decode cX12_whenStuck 89 = .ok (.iaload, 1) := by decide +kernel
theorem dX12_whenStuck_90 : decode cX12_whenStuck 90 = .ok (.ifCond .ne 19, 3) := by decide +kernel
theorem dX12_whenStuck_93 : decode cX12_whenStuck 93 = .ok (.aload_n 0, 1) := by decide +kernel
theorem dX12_whenStuck_94 : decode cX12_whenStuck 94 = .ok (.getfield 43, 3) := by decide +kernel
theorem dX12_whenStuck_97 : decode cX12_whenStuck 97 = .ok (.iload_n 3, 1) := by decide +kernel
theorem dX12_whenStuck_98 : decode cX12_whenStuck 98 = .ok (.iaload, 1) := by decide +kernel
theorem dX12_whenStuck_99 : decode cX12_whenStuck 99 = .ok (.aload_n 0, 1) := by decide +kernel
theorem dX12_whenStuck_100 : decode cX12_whenStuck 100 = .ok (.getfield 40, 3) := by decide +kernel
theorem dX12_whenStuck_103 : decode cX12_whenStuck 103 = .ok (.iload_n 3, 1) := by decide +kernel
theorem dX12_whenStuck_104 : decode cX12_whenStuck 104 = .ok (.iaload, 1) := by decide +kernel
theorem dX12_whenStuck_105 : decode cX12_whenStuck 105 = .ok (.isub, 1) := by decide +kernel
theorem dX12_whenStuck_106 : decode cX12_whenStuck 106 = .ok (.goto 9, 3) := by decide +kernel
theorem dX12_whenStuck_109 : decode cX12_whenStuck 109 = .ok (.aload_n 0, 1) := by decide +kernel
theorem dX12_whenStuck_110 : decode cX12_whenStuck 110 = .ok (.iload_n 3, 1) := by decide +kernel
theorem dX12_whenStuck_111 : decode cX12_whenStuck 111 = .ok (.iconst 1, 1) := by decide +kernel
theorem dX12_whenStuck_112 : decode cX12_whenStuck 112 = .ok (.invokevirtual 142, 3) := by decide +kernel
theorem dX12_whenStuck_115 : decode cX12_whenStuck 115 = .ok (.ireturn, 1) := by decide +kernel
theorem dX12_whenStuck_116 : decode cX12_whenStuck 116 = .ok (.iload_n 3, 1) := by decide +kernel
theorem dX12_whenStuck_117 : decode cX12_whenStuck 117 = .ok (.iconst 3, 1) := by decide +kernel
theorem dX12_whenStuck_118 : decode cX12_whenStuck 118 = .ok (.if_icmp .ge 21, 3) := by decide +kernel
theorem dX12_whenStuck_121 : decode cX12_whenStuck 121 = .ok (.aload_n 0, 1) := by decide +kernel
theorem dX12_whenStuck_122 : decode cX12_whenStuck 122 = .ok (.getfield 40, 3) := by decide +kernel
theorem dX12_whenStuck_125 : decode cX12_whenStuck 125 = .ok (.iload_n 3, 1) := by decide +kernel
theorem dX12_whenStuck_126 : decode cX12_whenStuck 126 = .ok (.iconst 1, 1) := by decide +kernel
theorem dX12_whenStuck_127 : decode cX12_whenStuck 127 = .ok (.iadd, 1) := by decide +kernel
theorem dX12_whenStuck_128 : decode cX12_whenStuck 128 = .ok (.iaload, 1) := by decide +kernel
theorem dX12_whenStuck_129 : decode cX12_whenStuck 129 = .ok (.ifCond .le 10, 3) := by decide +kernel
theorem dX12_whenStuck_132 : decode cX12_whenStuck 132 = .ok (.aload_n 0, 1) := by decide +kernel
theorem dX12_whenStuck_133 : decode cX12_whenStuck 133 = .ok (.iload_n 3, 1) := by decide +kernel
theorem dX12_whenStuck_134 : decode cX12_whenStuck 134 = .ok (.iconst 0, 1) := by decide +kernel
theorem dX12_whenStuck_135 : decode cX12_whenStuck 135 = .ok (.invokevirtual 142, 3) := by decide +kernel
theorem dX12_whenStuck_138 : decode cX12_whenStuck 138 = .ok (.ireturn, 1) := by decide +kernel
theorem dX12_whenStuck_139 : decode cX12_whenStuck 139 = .ok (.iload_n 2, 1) := by decide +kernel
theorem dX12_whenStuck_140 : decode cX12_whenStuck 140 = .ok (.iconst 4, 1) := by decide +kernel
theorem dX12_whenStuck_141 : decode cX12_whenStuck 141 = .ok (.irem, 1) := by decide +kernel
theorem dX12_whenStuck_142 : decode cX12_whenStuck 142 = .ok (.iconst 3, 1) := by decide +kernel
theorem dX12_whenStuck_143 : decode cX12_whenStuck 143 = .ok (.if_icmp .ne 12, 3) := by decide +kernel
theorem dX12_whenStuck_146 : decode cX12_whenStuck 146 = .ok (.aload_n 0, 1) := by decide +kernel
theorem dX12_whenStuck_147 : decode cX12_whenStuck 147 = .ok (.getfield 43, 3) := by decide +kernel
theorem dX12_whenStuck_150 : decode cX12_whenStuck 150 = .ok (.iload_n 3, 1) := by decide +kernel
theorem dX12_whenStuck_151 : decode cX12_whenStuck 151 = .ok (.iaload, 1) := by decide +kernel
theorem dX12_whenStuck_152 : decode cX12_whenStuck 152 = .ok (.goto 31, 3) := by decide +kernel
theorem dX12_whenStuck_155 : decode cX12_whenStuck 155 = .ok (.aload_n 0, 1) := by decide +kernel
theorem dX12_whenStuck_156 : decode cX12_whenStuck 156 = .ok (.iload_n 2, 1) := by decide +kernel
theorem dX12_whenStuck_157 : decode cX12_whenStuck 157 = .ok (.iconst 4, 1) := by decide +kernel
theorem dX12_whenStuck_158 : decode cX12_whenStuck 158 = .ok (.irem, 1) := by decide +kernel
theorem dX12_whenStuck_159 : decode cX12_whenStuck 159 = .ok (.ifCond .ne 7, 3) := by decide +kernel
theorem dX12_whenStuck_162 : decode cX12_whenStuck 162 = .ok (.iconst 2, 1) := by decide +kernel
theorem dX12_whenStuck_163 : decode cX12_whenStuck 163 = .ok (.goto 15, 3) := by decide +kernel
theorem dX12_whenStuck_166 : decode cX12_whenStuck 166 = .ok (.iload_n 2, 1) := by decide +kernel
theorem dX12_whenStuck_167 : decode cX12_whenStuck 167 = .ok (.iconst 4, 1) := by decide +kernel
theorem dX12_whenStuck_168 : decode cX12_whenStuck 168 = .ok (.irem, 1) := by decide +kernel
theorem dX12_whenStuck_169 : decode cX12_whenStuck 169 = .ok (.iconst 1, 1) := by decide +kernel
theorem dX12_whenStuck_170 : decode cX12_whenStuck 170 = .ok (.if_icmp .ne 7, 3) := by decide +kernel
theorem dX12_whenStuck_173 : decode cX12_whenStuck 173 = .ok (.iconst 1, 1) := by decide +kernel
theorem dX12_whenStuck_174 : decode cX12_whenStuck 174 = .ok (.goto 4, 3) := by decide +kernel
theorem dX12_whenStuck_177 : decode cX12_whenStuck 177 = .ok (.iconst 3, 1) := by decide +kernel
theorem dX12_whenStuck_178 : decode cX12_whenStuck 178 = .ok (.iload_n 2, 1) := by decide +kernel
theorem dX12_whenStuck_179 : decode cX12_whenStuck 179 = .ok (.iload_n 3, 1) := by decide +kernel
theorem dX12_whenStuck_180 : decode cX12_whenStuck 180 = .ok (.invokevirtual 146, 3) := by decide +kernel
theorem dX12_whenStuck_183 : decode cX12_whenStuck 183 = .ok (.ireturn, 1) := by decide +kernel
theorem dX12_whenStuck_184 : decode cX12_whenStuck 184 = .ok (.iload_n 3, 1) := by decide +kernel
theorem dX12_whenStuck_185 : decode cX12_whenStuck 185 = .ok (.iconst 3, 1) := by decide +kernel
theorem dX12_whenStuck_186 : decode cX12_whenStuck 186 = .ok (.if_icmp .ne 7, 3) := by decide +kernel
theorem dX12_whenStuck_189 : decode cX12_whenStuck 189 = .ok (.iconst 0, 1) := by decide +kernel
theorem dX12_whenStuck_190 : decode cX12_whenStuck 190 = .ok (.goto 19, 3) := by decide +kernel
theorem dX12_whenStuck_193 : decode cX12_whenStuck 193 = .ok (.aload_n 0, 1) := by decide +kernel
theorem dX12_whenStuck_194 : decode cX12_whenStuck 194 = .ok (.getfield 40, 3) := by decide +kernel
theorem dX12_whenStuck_197 : decode cX12_whenStuck 197 = .ok (.iload_n 3, 1) := by decide +kernel
theorem dX12_whenStuck_198 : decode cX12_whenStuck 198 = .ok (.iaload, 1) := by decide +kernel
theorem dX12_whenStuck_199 : decode cX12_whenStuck 199 = .ok (.bipush 10, 2) := by decide +kernel
theorem dX12_whenStuck_201 : decode cX12_whenStuck 201 = .ok (.iadd, 1) := by decide +kernel
theorem dX12_whenStuck_202 : decode cX12_whenStuck 202 = .ok (.aload_n 0, 1) := by decide +kernel
theorem dX12_whenStuck_203 : decode cX12_whenStuck 203 = .ok (.getfield 43, 3) := by decide +kernel
theorem dX12_whenStuck_206 : decode cX12_whenStuck 206 = .ok (.iload_n 3, 1) := by decide +kernel
theorem dX12_whenStuck_207 : decode cX12_whenStuck 207 = .ok (.iaload, 1) := by decide +kernel
theorem dX12_whenStuck_208 : decode cX12_whenStuck 208 = .ok (.isub, 1) := by decide +kernel
theorem dX12_whenStuck_209 : decode cX12_whenStuck 209 = .ok (.ireturn, 1) := by decide +kernel
theorem dX12_whenStuck_210 : decode cX12_whenStuck 210 = .ok (.aload_n 0, 1) := by decide +kernel
theorem dX12_whenStuck_211 : decode cX12_whenStuck 211 = .ok (.iload_n 3, 1) := by decide +kernel
theorem dX12_whenStuck_212 : decode cX12_whenStuck 212 = .ok (.iconst 1, 1) := by decide +kernel
theorem dX12_whenStuck_213 : decode cX12_whenStuck 213 = .ok (.invokevirtual 142, 3) := by decide +kernel
theorem dX12_whenStuck_216 : decode cX12_whenStuck 216 = .ok (.ireturn, 1) := by decide +kernel
theorem dX12_answerOf_0 : decode cX12_answerOf 0 = .ok (.iconst 1, 1) := by decide +kernel
theorem dX12_answerOf_1 : decode cX12_answerOf 1 = .ok (.istore 4, 2) := by decide +kernel
theorem dX12_answerOf_3 : decode cX12_answerOf 3 = .ok (.iconst 0, 1) := by decide +kernel
theorem dX12_answerOf_4 : decode cX12_answerOf 4 = .ok (.istore 5, 2) := by decide +kernel
theorem dX12_answerOf_6 : decode cX12_answerOf 6 = .ok (.iload 5, 2) := by decide +kernel
theorem dX12_answerOf_8 : decode cX12_answerOf 8 = .ok (.iconst 4, 1) := by decide +kernel
theorem dX12_answerOf_9 : decode cX12_answerOf 9 = .ok (.if_icmp .ge 44, 3) := by decide +kernel
theorem dX12_answerOf_12 : decode cX12_answerOf 12 = .ok (.aload_n 0, 1) := by decide +kernel
theorem dX12_answerOf_13 : decode cX12_answerOf 13 = .ok (.getfield 40, 3) := by decide +kernel
theorem dX12_answerOf_16 : decode cX12_answerOf 16 = .ok (.iload 5, 2) := by decide +kernel
theorem dX12_answerOf_18 : decode cX12_answerOf 18 = .ok (.iload_n 2, 1) := by decide +kernel
theorem dX12_answerOf_19 : decode cX12_answerOf 19 = .ok (.iload 4, 2) := by decide +kernel
theorem dX12_answerOf_21 : decode cX12_answerOf 21 = .ok (.idiv, 1) := by decide +kernel
theorem dX12_answerOf_22 : decode cX12_answerOf 22 = .ok (.bipush 10, 2) := by decide +kernel
theorem dX12_answerOf_24 : decode cX12_answerOf 24 = .ok (.irem, 1) := by decide +kernel
theorem dX12_answerOf_25 : decode cX12_answerOf 25 = .ok (.iastore, 1) := by decide +kernel
theorem dX12_answerOf_26 : decode cX12_answerOf 26 = .ok (.aload_n 0, 1) := by decide +kernel
theorem dX12_answerOf_27 : decode cX12_answerOf 27 = .ok (.getfield 43, 3) := by decide +kernel
theorem dX12_answerOf_30 : decode cX12_answerOf 30 = .ok (.iload 5, 2) := by decide +kernel
theorem dX12_answerOf_32 : decode cX12_answerOf 32 = .ok (.iload_n 3, 1) := by decide +kernel
theorem dX12_answerOf_33 : decode cX12_answerOf 33 = .ok (.iload 4, 2) := by decide +kernel
theorem dX12_answerOf_35 : decode cX12_answerOf 35 = .ok (.idiv, 1) := by decide +kernel
theorem dX12_answerOf_36 : decode cX12_answerOf 36 = .ok (.bipush 10, 2) := by decide +kernel
theorem dX12_answerOf_38 : decode cX12_answerOf 38 = .ok (.irem, 1) := by decide +kernel
theorem dX12_answerOf_39 : decode cX12_answerOf 39 = .ok (.iastore, 1) := by decide +kernel
theorem dX12_answerOf_40 : decode cX12_answerOf 40 = .ok (.iload 4, 2) := by decide +kernel
theorem dX12_answerOf_42 : decode cX12_answerOf 42 = .ok (.bipush 10, 2) := by decide +kernel
theorem dX12_answerOf_44 : decode cX12_answerOf 44 = .ok (.imul, 1) := by decide +kernel
theorem dX12_answerOf_45 : decode cX12_answerOf 45 = .ok (.istore 4, 2) := by decide +kernel
theorem dX12_answerOf_47 : decode cX12_answerOf 47 = .ok (.iinc 5 1, 3) := by decide +kernel
theorem dX12_answerOf_50 : decode cX12_answerOf 50 = .ok (.goto (-44), 3) := by decide +kernel
theorem dX12_answerOf_53 : decode cX12_answerOf 53 = .ok (.aload_n 0, 1) := by decide +kernel
theorem dX12_answerOf_54 : decode cX12_answerOf 54 = .ok (.iconst 0, 1) := by decide +kernel
theorem dX12_answerOf_55 : decode cX12_answerOf 55 = .ok (.putfield 150, 3) := by decide +kernel
theorem dX12_answerOf_58 : decode cX12_answerOf 58 = .ok (.iconst 0, 1) := by decide +kernel
theorem dX12_answerOf_59 : decode cX12_answerOf 59 = .ok (.istore 5, 2) := by decide +kernel
theorem dX12_answerOf_61 : decode cX12_answerOf 61 = .ok (.iconst 1, 1) := by decide +kernel
theorem dX12_answerOf_62 : decode cX12_answerOf 62 = .ok (.istore 4, 2) := by decide +kernel
theorem dX12_answerOf_64 : decode cX12_answerOf 64 = .ok (.iconst 0, 1) := by decide +kernel
theorem dX12_answerOf_65 : decode cX12_answerOf 65 = .ok (.istore 6, 2) := by decide +kernel
theorem dX12_answerOf_67 : decode cX12_answerOf 67 = .ok (.iload 6, 2) := by decide +kernel
theorem dX12_answerOf_69 : decode cX12_answerOf 69 = .ok (.iconst 4, 1) := by decide +kernel
theorem dX12_answerOf_70 : decode cX12_answerOf 70 = .ok (.if_icmp .ge 111, 3) := by decide +kernel
theorem dX12_answerOf_73 : decode cX12_answerOf 73 = .ok (.aload_n 0, 1) := by decide +kernel
theorem dX12_answerOf_74 : decode cX12_answerOf 74 = .ok (.getfield 43, 3) := by decide +kernel
theorem dX12_answerOf_77 : decode cX12_answerOf 77 = .ok (.iload 6, 2) := by decide +kernel
theorem dX12_answerOf_79 : decode cX12_answerOf 79 = .ok (.iaload, 1) := by decide +kernel
theorem dX12_answerOf_80 : decode cX12_answerOf 80 = .ok (.aload_n 0, 1) := by decide +kernel
theorem dX12_answerOf_81 : decode cX12_answerOf 81 = .ok (.getfield 40, 3) := by decide +kernel
theorem dX12_answerOf_84 : decode cX12_answerOf 84 = .ok (.iload 6, 2) := by decide +kernel
theorem dX12_answerOf_86 : decode cX12_answerOf 86 = .ok (.iaload, 1) := by decide +kernel
theorem dX12_answerOf_87 : decode cX12_answerOf 87 = .ok (.if_icmp .gt 28, 3) := by decide +kernel
theorem dX12_answerOf_90 : decode cX12_answerOf 90 = .ok (.aload_n 0, 1) := by decide +kernel
theorem dX12_answerOf_91 : decode cX12_answerOf 91 = .ok (.getfield 46, 3) := by decide +kernel
theorem dX12_answerOf_94 : decode cX12_answerOf 94 = .ok (.iload 6, 2) := by decide +kernel
theorem dX12_answerOf_96 : decode cX12_answerOf 96 = .ok (.aload_n 0, 1) := by decide +kernel
theorem dX12_answerOf_97 : decode cX12_answerOf 97 = .ok (.getfield 40, 3) := by decide +kernel
theorem dX12_answerOf_100 : decode cX12_answerOf 100 = .ok (.iload 6, 2) := by decide +kernel
theorem dX12_answerOf_102 : decode cX12_answerOf 102 = .ok (.iaload, 1) := by decide +kernel
theorem dX12_answerOf_103 : decode cX12_answerOf 103 = .ok (.aload_n 0, 1) := by decide +kernel
theorem dX12_answerOf_104 : decode cX12_answerOf 104 = .ok (.getfield 43, 3) := by decide +kernel
theorem dX12_answerOf_107 : decode cX12_answerOf 107 = .ok (.iload 6, 2) := by decide +kernel
theorem dX12_answerOf_109 : decode cX12_answerOf 109 = .ok (.iaload, 1) := by decide +kernel
theorem dX12_answerOf_110 : decode cX12_answerOf 110 = .ok (.isub, 1) := by decide +kernel
theorem dX12_answerOf_111 : decode cX12_answerOf 111 = .ok (.iastore, 1) := by decide +kernel
theorem dX12_answerOf_112 : decode cX12_answerOf 112 = .ok (.goto 41, 3) := by decide +kernel
theorem dX12_answerOf_115 : decode cX12_answerOf 115 = .ok (.aload_n 0, 1) := by decide +kernel
theorem dX12_answerOf_116 : decode cX12_answerOf 116 = .ok (.dup, 1) := by decide +kernel
theorem dX12_answerOf_117 : decode cX12_answerOf 117 = .ok (.getfield 150, 3) := by decide +kernel
theorem dX12_answerOf_120 : decode cX12_answerOf 120 = .ok (.iconst 1, 1) := by decide +kernel
theorem dX12_answerOf_121 : decode cX12_answerOf 121 = .ok (.iload 6, 2) := by decide +kernel
theorem dX12_answerOf_123 : decode cX12_answerOf 123 = .ok (.ishl, 1) := by decide +kernel
theorem dX12_answerOf_124 : decode cX12_answerOf 124 = .ok (.ior, 1) := by decide +kernel
theorem dX12_answerOf_125 : decode cX12_answerOf 125 = .ok (.putfield 150, 3) := by decide +kernel
theorem dX12_answerOf_128 : decode cX12_answerOf 128 = .ok (.aload_n 0, 1) := by decide +kernel
theorem dX12_answerOf_129 : decode cX12_answerOf 129 = .ok (.getfield 46, 3) := by decide +kernel
theorem dX12_answerOf_132 : decode cX12_answerOf 132 = .ok (.iload 6, 2) := by decide +kernel
theorem dX12_answerOf_134 : decode cX12_answerOf 134 = .ok (.aload_n 0, 1) := by decide +kernel
theorem dX12_answerOf_135 : decode cX12_answerOf 135 = .ok (.aload_n 0, 1) := by decide +kernel
theorem dX12_answerOf_136 : decode cX12_answerOf 136 = .ok (.iload_n 1, 1) := by decide +kernel
theorem dX12_answerOf_137 : decode cX12_answerOf 137 = .ok (.iconst 0, 1) := by decide +kernel
theorem dX12_answerOf_138 : decode cX12_answerOf 138 = .ok (.invokevirtual 119, 3) := by decide +kernel
theorem dX12_answerOf_141 : decode cX12_answerOf 141 = .ok (.aload_n 0, 1) := by decide +kernel
theorem dX12_answerOf_142 : decode cX12_answerOf 142 = .ok (.iload_n 1, 1) := by decide +kernel
theorem dX12_answerOf_143 : decode cX12_answerOf 143 = .ok (.iconst 1, 1) := by decide +kernel
theorem dX12_answerOf_144 : decode cX12_answerOf 144 = .ok (.invokevirtual 119, 3) := by decide +kernel
theorem dX12_answerOf_147 : decode cX12_answerOf 147 = .ok (.iload 6, 2) := by decide +kernel
theorem dX12_answerOf_149 : decode cX12_answerOf 149 = .ok (.invokevirtual 146, 3) := by decide +kernel
theorem dX12_answerOf_152 : decode cX12_answerOf 152 = .ok (.iastore, 1) := by decide +kernel
theorem dX12_answerOf_153 : decode cX12_answerOf 153 = .ok (.iload 5, 2) := by decide +kernel
theorem dX12_answerOf_155 : decode cX12_answerOf 155 = .ok (.iload 4, 2) := by decide +kernel
theorem dX12_answerOf_157 : decode cX12_answerOf 157 = .ok (.aload_n 0, 1) := by decide +kernel
theorem dX12_answerOf_158 : decode cX12_answerOf 158 = .ok (.getfield 46, 3) := by decide +kernel
theorem dX12_answerOf_161 : decode cX12_answerOf 161 = .ok (.iload 6, 2) := by decide +kernel
theorem dX12_answerOf_163 : decode cX12_answerOf 163 = .ok (.iaload, 1) := by decide +kernel
theorem dX12_answerOf_164 : decode cX12_answerOf 164 = .ok (.imul, 1) := by decide +kernel
theorem dX12_answerOf_165 : decode cX12_answerOf 165 = .ok (.iadd, 1) := by decide +kernel
theorem dX12_answerOf_166 : decode cX12_answerOf 166 = .ok (.istore 5, 2) := by decide +kernel
theorem dX12_answerOf_168 : decode cX12_answerOf 168 = .ok (.iload 4, 2) := by decide +kernel
theorem dX12_answerOf_170 : decode cX12_answerOf 170 = .ok (.bipush 10, 2) := by decide +kernel
theorem dX12_answerOf_172 : decode cX12_answerOf 172 = .ok (.imul, 1) := by decide +kernel
theorem dX12_answerOf_173 : decode cX12_answerOf 173 = .ok (.istore 4, 2) := by decide +kernel
theorem dX12_answerOf_175 : decode cX12_answerOf 175 = .ok (.iinc 6 1, 3) := by decide +kernel
theorem dX12_answerOf_178 : decode cX12_answerOf 178 = .ok (.goto (-111), 3) := by decide +kernel
theorem dX12_answerOf_181 : decode cX12_answerOf 181 = .ok (.iload 5, 2) := by decide +kernel
theorem dX12_answerOf_183 : decode cX12_answerOf 183 = .ok (.ireturn, 1) := by decide +kernel
theorem dX12_work_0 : decode cX12_work 0 = .ok (.aload_n 0, 1) := by decide +kernel
theorem dX12_work_1 : decode cX12_work 1 = .ok (.iload_n 1, 1) := by decide +kernel
theorem dX12_work_2 : decode cX12_work 2 = .ok (.invokevirtual 114, 3) := by decide +kernel
theorem dX12_work_5 : decode cX12_work 5 = .ok (.ifCond .eq 21, 3) := by decide +kernel
theorem dX12_work_8 : decode cX12_work 8 = .ok (.iload_n 2, 1) := by decide +kernel
theorem dX12_work_9 : decode cX12_work 9 = .ok (.iload_n 3, 1) := by decide +kernel
theorem dX12_work_10 : decode cX12_work 10 = .ok (.invokestatic 153, 3) := by decide +kernel
theorem dX12_work_13 : decode cX12_work 13 = .ok (.ifCond .eq 13, 3) := by decide +kernel
theorem dX12_work_16 : decode cX12_work 16 = .ok (.aload_n 0, 1) := by decide +kernel
theorem dX12_work_17 : decode cX12_work 17 = .ok (.iload_n 1, 1) := by decide +kernel
theorem dX12_work_18 : decode cX12_work 18 = .ok (.iload_n 2, 1) := by decide +kernel
theorem dX12_work_19 : decode cX12_work 19 = .ok (.iload_n 3, 1) := by decide +kernel
theorem dX12_work_20 : decode cX12_work 20 = .ok (.invokevirtual 157, 3) := by decide +kernel
theorem dX12_work_23 : decode cX12_work 23 = .ok (.goto 4, 3) := by decide +kernel
theorem dX12_work_26 : decode cX12_work 26 = .ok (.iconst (-1), 1) := by decide +kernel
theorem dX12_work_27 : decode cX12_work 27 = .ok (.ireturn, 1) := by decide +kernel
theorem dX12_column_0 : decode cX12_column 0 = .ok (.aload_n 0, 1) := by decide +kernel
theorem dX12_column_1 : decode cX12_column 1 = .ok (.iload_n 1, 1) := by decide +kernel
theorem dX12_column_2 : decode cX12_column 2 = .ok (.invokevirtual 114, 3) := by decide +kernel
theorem dX12_column_5 : decode cX12_column 5 = .ok (.ifCond .eq 35, 3) := by decide +kernel
theorem dX12_column_8 : decode cX12_column 8 = .ok (.iload_n 2, 1) := by decide +kernel
theorem dX12_column_9 : decode cX12_column 9 = .ok (.iload_n 3, 1) := by decide +kernel
theorem dX12_column_10 : decode cX12_column 10 = .ok (.invokestatic 153, 3) := by decide +kernel
theorem dX12_column_13 : decode cX12_column 13 = .ok (.ifCond .eq 27, 3) := by decide +kernel
theorem dX12_column_16 : decode cX12_column 16 = .ok (.iload 4, 2) := by decide +kernel
theorem dX12_column_18 : decode cX12_column 18 = .ok (.i2l, 1) := by decide +kernel
theorem dX12_column_19 : decode cX12_column 19 = .ok (.lconst 0, 1) := by decide +kernel
theorem dX12_column_20 : decode cX12_column 20 = .ok (.ldc2_w 160, 3) := by decide +kernel
theorem dX12_column_23 : decode cX12_column 23 = .ok (.invokestatic 62, 3) := by decide +kernel
theorem dX12_column_26 : decode cX12_column 26 = .ok (.ifCond .eq 14, 3) := by decide +kernel
theorem dX12_column_29 : decode cX12_column 29 = .ok (.iload 5, 2) := by decide +kernel
theorem dX12_column_31 : decode cX12_column 31 = .ok (.i2l, 1) := by decide +kernel
theorem dX12_column_32 : decode cX12_column 32 = .ok (.lconst 0, 1) := by decide +kernel
theorem dX12_column_33 : decode cX12_column 33 = .ok (.lconst 1, 1) := by decide +kernel
theorem dX12_column_34 : decode cX12_column 34 = .ok (.invokestatic 62, 3) := by decide +kernel
theorem dX12_column_37 : decode cX12_column 37 = .ok (.ifCond .ne 5, 3) := by decide +kernel
theorem dX12_column_40 : decode cX12_column 40 = .ok (.iconst (-1), 1) := by decide +kernel
theorem dX12_column_41 : decode cX12_column 41 = .ok (.ireturn, 1) := by decide +kernel
theorem dX12_column_42 : decode cX12_column 42 = .ok (.aload_n 0, 1) := by decide +kernel
theorem dX12_column_43 : decode cX12_column 43 = .ok (.iload_n 1, 1) := by decide +kernel
theorem dX12_column_44 : decode cX12_column 44 = .ok (.iload_n 2, 1) := by decide +kernel
theorem dX12_column_45 : decode cX12_column 45 = .ok (.iload_n 3, 1) := by decide +kernel
theorem dX12_column_46 : decode cX12_column 46 = .ok (.invokevirtual 157, 3) := by decide +kernel
theorem dX12_column_49 : decode cX12_column 49 = .ok (.pop, 1) := by decide +kernel
theorem dX12_column_50 : decode cX12_column 50 = .ok (.iload 5, 2) := by decide +kernel
theorem dX12_column_52 : decode cX12_column 52 = .ok (.ifCond .ne 13, 3) := by decide +kernel
theorem dX12_column_55 : decode cX12_column 55 = .ok (.aload_n 0, 1) := by decide +kernel
theorem dX12_column_56 : decode cX12_column 56 = .ok (.getfield 46, 3) := by decide +kernel
theorem dX12_column_59 : decode cX12_column 59 = .ok (.iload 4, 2) := by decide +kernel
theorem dX12_column_61 : decode cX12_column 61 = .ok (.iaload, 1) := by decide +kernel
theorem dX12_column_62 : decode cX12_column 62 = .ok (.goto 12, 3) := by decide +kernel
theorem dX12_column_65 : decode cX12_column 65 = .ok (.aload_n 0, 1) := by decide +kernel
theorem dX12_column_66 : decode cX12_column 66 = .ok (.getfield 150, 3) := by decide +kernel
theorem dX12_column_69 : decode cX12_column 69 = .ok (.iload 4, 2) := by decide +kernel
theorem dX12_column_71 : decode cX12_column 71 = .ok (.ishr, 1) := by decide +kernel
theorem dX12_column_72 : decode cX12_column 72 = .ok (.iconst 1, 1) := by decide +kernel
theorem dX12_column_73 : decode cX12_column 73 = .ok (.iand, 1) := by decide +kernel
theorem dX12_column_74 : decode cX12_column 74 = .ok (.ireturn, 1) := by decide +kernel
theorem dX12_whoseOf_0 : decode cX12_whoseOf 0 = .ok (.iconst 0, 1) := by decide +kernel
theorem dX12_whoseOf_1 : decode cX12_whoseOf 1 = .ok (.istore 4, 2) := by decide +kernel
theorem dX12_whoseOf_3 : decode cX12_whoseOf 3 = .ok (.iconst 0, 1) := by decide +kernel
theorem dX12_whoseOf_4 : decode cX12_whoseOf 4 = .ok (.istore 5, 2) := by decide +kernel
theorem dX12_whoseOf_6 : decode cX12_whoseOf 6 = .ok (.iload 5, 2) := by decide +kernel
theorem dX12_whoseOf_8 : decode cX12_whoseOf 8 = .ok (.aload_n 0, 1) := by decide +kernel
theorem dX12_whoseOf_9 : decode cX12_whoseOf 9 = .ok (.getfield 9, 3) := by decide +kernel
theorem dX12_whoseOf_12 : decode cX12_whoseOf 12 = .ok (.iconst 0, 1) := by decide +kernel
theorem dX12_whoseOf_13 : decode cX12_whoseOf 13 = .ok (.iaload, 1) := by decide +kernel
theorem dX12_whoseOf_14 : decode cX12_whoseOf 14 = .ok (.if_icmp .ge 34, 3) := by decide +kernel
theorem dX12_whoseOf_17 : decode cX12_whoseOf 17 = .ok (.iload 4, 2) := by decide +kernel
theorem dX12_whoseOf_19 : decode cX12_whoseOf 19 = .ok (.aload_n 0, 1) := by decide +kernel
theorem dX12_whoseOf_20 : decode cX12_whoseOf 20 = .ok (.iload 5, 2) := by decide +kernel
theorem dX12_whoseOf_22 : decode cX12_whoseOf 22 = .ok (.iload_n 1, 1) := by decide +kernel
theorem dX12_whoseOf_23 : decode cX12_whoseOf 23 = .ok (.iload_n 2, 1) := by decide +kernel
theorem dX12_whoseOf_24 : decode cX12_whoseOf 24 = .ok (.invokevirtual 157, 3) := by decide +kernel
theorem dX12_whoseOf_27 : decode cX12_whoseOf 27 = .ok (.iload_n 3, 1) := by decide +kernel
theorem dX12_whoseOf_28 : decode cX12_whoseOf 28 = .ok (.if_icmp .ne 10, 3) := by decide +kernel
theorem dX12_whoseOf_31 : decode cX12_whoseOf 31 = .ok (.iconst 1, 1) := by decide +kernel
theorem dX12_whoseOf_32 : decode cX12_whoseOf 32 = .ok (.iload 5, 2) := by decide +kernel
theorem dX12_whoseOf_34 : decode cX12_whoseOf 34 = .ok (.ishl, 1) := by decide +kernel
theorem dX12_whoseOf_35 : decode cX12_whoseOf 35 = .ok (.goto 4, 3) := by decide +kernel
theorem dX12_whoseOf_38 : decode cX12_whoseOf 38 = .ok (.iconst 0, 1) := by decide +kernel
theorem dX12_whoseOf_39 : decode cX12_whoseOf 39 = .ok (.ior, 1) := by decide +kernel
theorem dX12_whoseOf_40 : decode cX12_whoseOf 40 = .ok (.istore 4, 2) := by decide +kernel
theorem dX12_whoseOf_42 : decode cX12_whoseOf 42 = .ok (.iinc 5 1, 3) := by decide +kernel
theorem dX12_whoseOf_45 : decode cX12_whoseOf 45 = .ok (.goto (-39), 3) := by decide +kernel
theorem dX12_whoseOf_48 : decode cX12_whoseOf 48 = .ok (.iload 4, 2) := by decide +kernel
theorem dX12_whoseOf_50 : decode cX12_whoseOf 50 = .ok (.ireturn, 1) := by decide +kernel
theorem dX12_right_0 : decode cX12_right 0 = .ok (.iload_n 1, 1) := by decide +kernel
theorem dX12_right_1 : decode cX12_right 1 = .ok (.iload_n 2, 1) := by decide +kernel
theorem dX12_right_2 : decode cX12_right 2 = .ok (.invokestatic 153, 3) := by decide +kernel
theorem dX12_right_5 : decode cX12_right 5 = .ok (.ifCond .eq 15, 3) := by decide +kernel
theorem dX12_right_8 : decode cX12_right 8 = .ok (.aload_n 0, 1) := by decide +kernel
theorem dX12_right_9 : decode cX12_right 9 = .ok (.iload_n 1, 1) := by decide +kernel
theorem dX12_right_10 : decode cX12_right 10 = .ok (.iload_n 2, 1) := by decide +kernel
theorem dX12_right_11 : decode cX12_right 11 = .ok (.iload_n 1, 1) := by decide +kernel
theorem dX12_right_12 : decode cX12_right 12 = .ok (.iload_n 2, 1) := by decide +kernel
theorem dX12_right_13 : decode cX12_right 13 = .ok (.isub, 1) := by decide +kernel
theorem dX12_right_14 : decode cX12_right 14 = .ok (.invokevirtual 162, 3) := by decide +kernel
theorem dX12_right_17 : decode cX12_right 17 = .ok (.goto 4, 3) := by decide +kernel
theorem dX12_right_20 : decode cX12_right 20 = .ok (.iconst (-1), 1) := by decide +kernel
theorem dX12_right_21 : decode cX12_right 21 = .ok (.ireturn, 1) := by decide +kernel
theorem dX12_partsOf_0 : decode cX12_partsOf 0 = .ok (.iconst 0, 1) := by decide +kernel
theorem dX12_partsOf_1 : decode cX12_partsOf 1 = .ok (.istore 4, 2) := by decide +kernel
theorem dX12_partsOf_3 : decode cX12_partsOf 3 = .ok (.iconst 0, 1) := by decide +kernel
theorem dX12_partsOf_4 : decode cX12_partsOf 4 = .ok (.istore 5, 2) := by decide +kernel
theorem dX12_partsOf_6 : decode cX12_partsOf 6 = .ok (.iload 5, 2) := by decide +kernel
theorem dX12_partsOf_8 : decode cX12_partsOf 8 = .ok (.aload_n 0, 1) := by decide +kernel
theorem dX12_partsOf_9 : decode cX12_partsOf 9 = .ok (.getfield 9, 3) := by decide +kernel
theorem dX12_partsOf_12 : decode cX12_partsOf 12 = .ok (.iconst 0, 1) := by decide +kernel
theorem dX12_partsOf_13 : decode cX12_partsOf 13 = .ok (.iaload, 1) := by decide +kernel
theorem dX12_partsOf_14 : decode cX12_partsOf 14 = .ok (.if_icmp .ge 61, 3) := by decide +kernel
theorem dX12_partsOf_17 : decode cX12_partsOf 17 = .ok (.iload_n 3, 1) := by decide +kernel
theorem dX12_partsOf_18 : decode cX12_partsOf 18 = .ok (.iload 5, 2) := by decide +kernel
theorem dX12_partsOf_20 : decode cX12_partsOf 20 = .ok (.ishr, 1) := by decide +kernel
theorem dX12_partsOf_21 : decode cX12_partsOf 21 = .ok (.iconst 1, 1) := by decide +kernel
theorem dX12_partsOf_22 : decode cX12_partsOf 22 = .ok (.iand, 1) := by decide +kernel
theorem dX12_partsOf_23 : decode cX12_partsOf 23 = .ok (.ifCond .ne 6, 3) := by decide +kernel
theorem dX12_partsOf_26 : decode cX12_partsOf 26 = .ok (.goto 43, 3) := by decide +kernel
theorem dX12_partsOf_29 : decode cX12_partsOf 29 = .ok (.iconst 1, 1) := by decide +kernel
theorem dX12_partsOf_30 : decode cX12_partsOf 30 = .ok (.iload 5, 2) := by decide +kernel
theorem dX12_partsOf_32 : decode cX12_partsOf 32 = .ok (.ishl, 1) := by decide +kernel
theorem dX12_partsOf_33 : decode cX12_partsOf 33 = .ok (.iconst 1, 1) := by decide +kernel
theorem dX12_partsOf_34 : decode cX12_partsOf 34 = .ok (.isub, 1) := by decide +kernel
theorem dX12_partsOf_35 : decode cX12_partsOf 35 = .ok (.iload_n 3, 1) := by decide +kernel
theorem dX12_partsOf_36 : decode cX12_partsOf 36 = .ok (.iand, 1) := by decide +kernel
theorem dX12_partsOf_37 : decode cX12_partsOf 37 = .ok (.istore 6, 2) := by decide +kernel
theorem dX12_partsOf_39 : decode cX12_partsOf 39 = .ok (.iload 4, 2) := by decide +kernel
theorem dX12_partsOf_41 : decode cX12_partsOf 41 = .ok (.aload_n 0, 1) := by decide +kernel
theorem dX12_partsOf_42 : decode cX12_partsOf 42 = .ok (.iload_n 1, 1) := by decide +kernel
theorem dX12_partsOf_43 : decode cX12_partsOf 43 = .ok (.iload_n 2, 1) := by decide +kernel
theorem dX12_partsOf_44 : decode cX12_partsOf 44 = .ok (.aload_n 0, 1) := by decide +kernel
theorem dX12_partsOf_45 : decode cX12_partsOf 45 = .ok (.iload 5, 2) := by decide +kernel
theorem dX12_partsOf_47 : decode cX12_partsOf 47 = .ok (.iload_n 1, 1) := by decide +kernel
theorem dX12_partsOf_48 : decode cX12_partsOf 48 = .ok (.iload_n 2, 1) := by decide +kernel
theorem dX12_partsOf_49 : decode cX12_partsOf 49 = .ok (.invokevirtual 157, 3) := by decide +kernel
theorem dX12_partsOf_52 : decode cX12_partsOf 52 = .ok (.invokevirtual 162, 3) := by decide +kernel
theorem dX12_partsOf_55 : decode cX12_partsOf 55 = .ok (.iload 6, 2) := by decide +kernel
theorem dX12_partsOf_57 : decode cX12_partsOf 57 = .ok (.iand, 1) := by decide +kernel
theorem dX12_partsOf_58 : decode cX12_partsOf 58 = .ok (.ifCond .ne 7, 3) := by decide +kernel
theorem dX12_partsOf_61 : decode cX12_partsOf 61 = .ok (.iconst 1, 1) := by decide +kernel
theorem dX12_partsOf_62 : decode cX12_partsOf 62 = .ok (.goto 4, 3) := by decide +kernel
theorem dX12_partsOf_65 : decode cX12_partsOf 65 = .ok (.iconst 0, 1) := by decide +kernel
theorem dX12_partsOf_66 : decode cX12_partsOf 66 = .ok (.iadd, 1) := by decide +kernel
theorem dX12_partsOf_67 : decode cX12_partsOf 67 = .ok (.istore 4, 2) := by decide +kernel
theorem dX12_partsOf_69 : decode cX12_partsOf 69 = .ok (.iinc 5 1, 3) := by decide +kernel
theorem dX12_partsOf_72 : decode cX12_partsOf 72 = .ok (.goto (-66), 3) := by decide +kernel
theorem dX12_partsOf_75 : decode cX12_partsOf 75 = .ok (.iload 4, 2) := by decide +kernel
theorem dX12_partsOf_77 : decode cX12_partsOf 77 = .ok (.ireturn, 1) := by decide +kernel
theorem dX12_parts_0 : decode cX12_parts 0 = .ok (.iload_n 1, 1) := by decide +kernel
theorem dX12_parts_1 : decode cX12_parts 1 = .ok (.iload_n 2, 1) := by decide +kernel
theorem dX12_parts_2 : decode cX12_parts 2 = .ok (.invokestatic 153, 3) := by decide +kernel
theorem dX12_parts_5 : decode cX12_parts 5 = .ok (.ifCond .eq 21, 3) := by decide +kernel
theorem dX12_parts_8 : decode cX12_parts 8 = .ok (.aload_n 0, 1) := by decide +kernel
theorem dX12_parts_9 : decode cX12_parts 9 = .ok (.iload_n 3, 1) := by decide +kernel
theorem dX12_parts_10 : decode cX12_parts 10 = .ok (.invokevirtual 165, 3) := by decide +kernel
theorem dX12_parts_13 : decode cX12_parts 13 = .ok (.ifCond .eq 13, 3) := by decide +kernel
theorem dX12_parts_16 : decode cX12_parts 16 = .ok (.aload_n 0, 1) := by decide +kernel
theorem dX12_parts_17 : decode cX12_parts 17 = .ok (.iload_n 1, 1) := by decide +kernel
theorem dX12_parts_18 : decode cX12_parts 18 = .ok (.iload_n 2, 1) := by decide +kernel
theorem dX12_parts_19 : decode cX12_parts 19 = .ok (.iload_n 3, 1) := by decide +kernel
theorem dX12_parts_20 : decode cX12_parts 20 = .ok (.invokevirtual 168, 3) := by decide +kernel
theorem dX12_parts_23 : decode cX12_parts 23 = .ok (.goto 4, 3) := by decide +kernel
theorem dX12_parts_26 : decode cX12_parts 26 = .ok (.iconst (-1), 1) := by decide +kernel
theorem dX12_parts_27 : decode cX12_parts 27 = .ok (.ireturn, 1) := by decide +kernel
theorem dX12_whose_0 : decode cX12_whose 0 = .ok (.iload_n 1, 1) := by decide +kernel
theorem dX12_whose_1 : decode cX12_whose 1 = .ok (.iload_n 2, 1) := by decide +kernel
theorem dX12_whose_2 : decode cX12_whose 2 = .ok (.invokestatic 153, 3) := by decide +kernel
theorem dX12_whose_5 : decode cX12_whose 5 = .ok (.ifCond .eq 25, 3) := by decide +kernel
theorem dX12_whose_8 : decode cX12_whose 8 = .ok (.iload_n 3, 1) := by decide +kernel
theorem dX12_whose_9 : decode cX12_whose 9 = .ok (.i2l, 1) := by decide +kernel
theorem dX12_whose_10 : decode cX12_whose 10 = .ok (.lconst 0, 1) := by decide +kernel
theorem dX12_whose_11 : decode cX12_whose 11 = .ok (.ldc2_w 68, 3) := by decide +kernel
theorem dX12_whose_14 : decode cX12_whose 14 = .ok (.invokestatic 62, 3) := by decide +kernel
theorem dX12_whose_17 : decode cX12_whose 17 = .ok (.ifCond .eq 13, 3) := by decide +kernel
theorem dX12_whose_20 : decode cX12_whose 20 = .ok (.aload_n 0, 1) := by decide +kernel
theorem dX12_whose_21 : decode cX12_whose 21 = .ok (.iload_n 1, 1) := by decide +kernel
theorem dX12_whose_22 : decode cX12_whose 22 = .ok (.iload_n 2, 1) := by decide +kernel
theorem dX12_whose_23 : decode cX12_whose 23 = .ok (.iload_n 3, 1) := by decide +kernel
theorem dX12_whose_24 : decode cX12_whose 24 = .ok (.invokevirtual 162, 3) := by decide +kernel
theorem dX12_whose_27 : decode cX12_whose 27 = .ok (.goto 4, 3) := by decide +kernel
theorem dX12_whose_30 : decode cX12_whose 30 = .ok (.iconst (-1), 1) := by decide +kernel
theorem dX12_whose_31 : decode cX12_whose 31 = .ok (.ireturn, 1) := by decide +kernel
theorem dX12_wrongSheet_0 : decode cX12_wrongSheet 0 = .ok (.aload_n 0, 1) := by decide +kernel
theorem dX12_wrongSheet_1 : decode cX12_wrongSheet 1 = .ok (.iload_n 1, 1) := by decide +kernel
theorem dX12_wrongSheet_2 : decode cX12_wrongSheet 2 = .ok (.iconst 2, 1) := by decide +kernel
theorem dX12_wrongSheet_3 : decode cX12_wrongSheet 3 = .ok (.invokevirtual 104, 3) := by decide +kernel
theorem dX12_wrongSheet_6 : decode cX12_wrongSheet 6 = .ok (.istore_n 2, 1) := by decide +kernel
theorem dX12_wrongSheet_7 : decode cX12_wrongSheet 7 = .ok (.iload_n 2, 1) := by decide +kernel
theorem dX12_wrongSheet_8 : decode cX12_wrongSheet 8 = .ok (.ifCond .eq 5, 3) := by decide +kernel
theorem dX12_wrongSheet_11 : decode cX12_wrongSheet 11 = .ok (.iload_n 2, 1) := by decide +kernel
theorem dX12_wrongSheet_12 : decode cX12_wrongSheet 12 = .ok (.ireturn, 1) := by decide +kernel
theorem dX12_wrongSheet_13 : decode cX12_wrongSheet 13 = .ok (.aload_n 0, 1) := by decide +kernel
theorem dX12_wrongSheet_14 : decode cX12_wrongSheet 14 = .ok (.getfield 25, 3) := by decide +kernel
theorem dX12_wrongSheet_17 : decode cX12_wrongSheet 17 = .ok (.iload_n 1, 1) := by decide +kernel
theorem dX12_wrongSheet_18 : decode cX12_wrongSheet 18 = .ok (.iaload, 1) := by decide +kernel
theorem dX12_wrongSheet_19 : decode cX12_wrongSheet 19 = .ok (.iconst 2, 1) := by decide +kernel
theorem dX12_wrongSheet_20 : decode cX12_wrongSheet 20 = .ok (.irem, 1) := by decide +kernel
theorem dX12_wrongSheet_21 : decode cX12_wrongSheet 21 = .ok (.iconst 1, 1) := by decide +kernel
theorem dX12_wrongSheet_22 : decode cX12_wrongSheet 22 = .ok (.if_icmp .eq 14, 3) := by decide +kernel
theorem dX12_wrongSheet_25 : decode cX12_wrongSheet 25 = .ok (.aload_n 0, 1) := by decide +kernel
theorem dX12_wrongSheet_26 : decode cX12_wrongSheet 26 = .ok (.getfield 25, 3) := by decide +kernel
theorem dX12_wrongSheet_29 : decode cX12_wrongSheet 29 = .ok (.iload_n 1, 1) := by decide +kernel
theorem dX12_wrongSheet_30 : decode cX12_wrongSheet 30 = .ok (.iaload, 1) := by decide +kernel
theorem dX12_wrongSheet_31 : decode cX12_wrongSheet 31 = .ok (.bipush 24, 2) := by decide +kernel
theorem dX12_wrongSheet_33 : decode cX12_wrongSheet 33 = .ok (.if_icmp .le 6, 3) := by decide +kernel
theorem dX12_wrongSheet_36 : decode cX12_wrongSheet 36 = .ok (.bipush (-13), 2) := by decide +kernel
theorem dX12_wrongSheet_38 : decode cX12_wrongSheet 38 = .ok (.ireturn, 1) := by decide +kernel
theorem dX12_wrongSheet_39 : decode cX12_wrongSheet 39 = .ok (.iconst 0, 1) := by decide +kernel
theorem dX12_wrongSheet_40 : decode cX12_wrongSheet 40 = .ok (.istore_n 3, 1) := by decide +kernel
theorem dX12_wrongSheet_41 : decode cX12_wrongSheet 41 = .ok (.iload_n 3, 1) := by decide +kernel
theorem dX12_wrongSheet_42 : decode cX12_wrongSheet 42 = .ok (.aload_n 0, 1) := by decide +kernel
theorem dX12_wrongSheet_43 : decode cX12_wrongSheet 43 = .ok (.getfield 25, 3) := by decide +kernel
theorem dX12_wrongSheet_46 : decode cX12_wrongSheet 46 = .ok (.iload_n 1, 1) := by decide +kernel
theorem dX12_wrongSheet_47 : decode cX12_wrongSheet 47 = .ok (.iaload, 1) := by decide +kernel
theorem dX12_wrongSheet_48 : decode cX12_wrongSheet 48 = .ok (.if_icmp .ge 42, 3) := by decide +kernel
theorem dX12_wrongSheet_51 : decode cX12_wrongSheet 51 = .ok (.aload_n 0, 1) := by decide +kernel
theorem dX12_wrongSheet_52 : decode cX12_wrongSheet 52 = .ok (.getfield 28, 3) := by decide +kernel
theorem dX12_wrongSheet_55 : decode cX12_wrongSheet 55 = .ok (.bipush 100, 2) := by decide +kernel
theorem dX12_wrongSheet_57 : decode cX12_wrongSheet 57 = .ok (.iload_n 1, 1) := by decide +kernel
theorem dX12_wrongSheet_58 : decode cX12_wrongSheet 58 = .ok (.imul, 1) := by decide +kernel
theorem dX12_wrongSheet_59 : decode cX12_wrongSheet 59 = .ok (.iload_n 3, 1) := by decide +kernel
theorem dX12_wrongSheet_60 : decode cX12_wrongSheet 60 = .ok (.iadd, 1) := by decide +kernel
theorem dX12_wrongSheet_61 : decode cX12_wrongSheet 61 = .ok (.iaload, 1) := by decide +kernel
theorem dX12_wrongSheet_62 : decode cX12_wrongSheet 62 = .ok (.aload_n 0, 1) := by decide +kernel
theorem dX12_wrongSheet_63 : decode cX12_wrongSheet 63 = .ok (.getfield 28, 3) := by decide +kernel
theorem dX12_wrongSheet_66 : decode cX12_wrongSheet 66 = .ok (.bipush 100, 2) := by decide +kernel
theorem dX12_wrongSheet_68 : decode cX12_wrongSheet 68 = .ok (.iload_n 1, 1) := by decide +kernel
theorem dX12_wrongSheet_69 : decode cX12_wrongSheet 69 = .ok (.imul, 1) := by decide +kernel
theorem dX12_wrongSheet_70 : decode cX12_wrongSheet 70 = .ok (.iload_n 3, 1) := by decide +kernel
theorem dX12_wrongSheet_71 : decode cX12_wrongSheet 71 = .ok (.iadd, 1) := by decide +kernel
theorem dX12_wrongSheet_72 : decode cX12_wrongSheet 72 = .ok (.iconst 1, 1) := by decide +kernel
theorem dX12_wrongSheet_73 : decode cX12_wrongSheet 73 = .ok (.iadd, 1) := by decide +kernel
theorem dX12_wrongSheet_74 : decode cX12_wrongSheet 74 = .ok (.iaload, 1) := by decide +kernel
theorem dX12_wrongSheet_75 : decode cX12_wrongSheet 75 = .ok (.invokestatic 153, 3) := by decide +kernel
theorem dX12_wrongSheet_78 : decode cX12_wrongSheet 78 = .ok (.ifCond .ne 6, 3) := by decide +kernel
theorem dX12_wrongSheet_81 : decode cX12_wrongSheet 81 = .ok (.bipush (-13), 2) := by decide +kernel
theorem dX12_wrongSheet_83 : decode cX12_wrongSheet 83 = .ok (.ireturn, 1) := by decide +kernel
theorem dX12_wrongSheet_84 : decode cX12_wrongSheet 84 = .ok (.iinc 3 2, 3) := by decide +kernel
theorem dX12_wrongSheet_87 : decode cX12_wrongSheet 87 = .ok (.goto (-46), 3) := by decide +kernel
theorem dX12_wrongSheet_90 : decode cX12_wrongSheet 90 = .ok (.iconst 0, 1) := by decide +kernel
theorem dX12_wrongSheet_91 : decode cX12_wrongSheet 91 = .ok (.ireturn, 1) := by decide +kernel
theorem dX12_sums_0 : decode cX12_sums 0 = .ok (.aload_n 0, 1) := by decide +kernel
theorem dX12_sums_1 : decode cX12_sums 1 = .ok (.getfield 25, 3) := by decide +kernel
theorem dX12_sums_4 : decode cX12_sums 4 = .ok (.iload_n 1, 1) := by decide +kernel
theorem dX12_sums_5 : decode cX12_sums 5 = .ok (.iaload, 1) := by decide +kernel
theorem dX12_sums_6 : decode cX12_sums 6 = .ok (.iconst 2, 1) := by decide +kernel
theorem dX12_sums_7 : decode cX12_sums 7 = .ok (.idiv, 1) := by decide +kernel
theorem dX12_sums_8 : decode cX12_sums 8 = .ok (.ireturn, 1) := by decide +kernel
theorem dX12_upperOf_0 : decode cX12_upperOf 0 = .ok (.aload_n 0, 1) := by decide +kernel
theorem dX12_upperOf_1 : decode cX12_upperOf 1 = .ok (.getfield 28, 3) := by decide +kernel
theorem dX12_upperOf_4 : decode cX12_upperOf 4 = .ok (.bipush 100, 2) := by decide +kernel
theorem dX12_upperOf_6 : decode cX12_upperOf 6 = .ok (.iload_n 1, 1) := by decide +kernel
theorem dX12_upperOf_7 : decode cX12_upperOf 7 = .ok (.imul, 1) := by decide +kernel
theorem dX12_upperOf_8 : decode cX12_upperOf 8 = .ok (.iconst 2, 1) := by decide +kernel
theorem dX12_upperOf_9 : decode cX12_upperOf 9 = .ok (.iload_n 2, 1) := by decide +kernel
theorem dX12_upperOf_10 : decode cX12_upperOf 10 = .ok (.imul, 1) := by decide +kernel
theorem dX12_upperOf_11 : decode cX12_upperOf 11 = .ok (.iadd, 1) := by decide +kernel
theorem dX12_upperOf_12 : decode cX12_upperOf 12 = .ok (.iaload, 1) := by decide +kernel
theorem dX12_upperOf_13 : decode cX12_upperOf 13 = .ok (.ireturn, 1) := by decide +kernel
theorem dX12_lowerOf_0 : decode cX12_lowerOf 0 = .ok (.aload_n 0, 1) := by decide +kernel
theorem dX12_lowerOf_1 : decode cX12_lowerOf 1 = .ok (.getfield 28, 3) := by decide +kernel
theorem dX12_lowerOf_4 : decode cX12_lowerOf 4 = .ok (.bipush 100, 2) := by decide +kernel
theorem dX12_lowerOf_6 : decode cX12_lowerOf 6 = .ok (.iload_n 1, 1) := by decide +kernel
theorem dX12_lowerOf_7 : decode cX12_lowerOf 7 = .ok (.imul, 1) := by decide +kernel
theorem dX12_lowerOf_8 : decode cX12_lowerOf 8 = .ok (.iconst 2, 1) := by decide +kernel
theorem dX12_lowerOf_9 : decode cX12_lowerOf 9 = .ok (.iload_n 2, 1) := by decide +kernel
theorem dX12_lowerOf_10 : decode cX12_lowerOf 10 = .ok (.imul, 1) := by decide +kernel
theorem dX12_lowerOf_11 : decode cX12_lowerOf 11 = .ok (.iadd, 1) := by decide +kernel
theorem dX12_lowerOf_12 : decode cX12_lowerOf 12 = .ok (.iconst 1, 1) := by decide +kernel
theorem dX12_lowerOf_13 : decode cX12_lowerOf 13 = .ok (.iadd, 1) := by decide +kernel
theorem dX12_lowerOf_14 : decode cX12_lowerOf 14 = .ok (.iaload, 1) := by decide +kernel
theorem dX12_lowerOf_15 : decode cX12_lowerOf 15 = .ok (.ireturn, 1) := by decide +kernel
theorem dX12_wrongAnswers_0 : decode cX12_wrongAnswers 0 = .ok (.aload_n 0, 1) := by decide +kernel
theorem dX12_wrongAnswers_1 : decode cX12_wrongAnswers 1 = .ok (.iload_n 2, 1) := by decide +kernel
theorem dX12_wrongAnswers_2 : decode cX12_wrongAnswers 2 = .ok (.iconst 2, 1) := by decide +kernel
theorem dX12_wrongAnswers_3 : decode cX12_wrongAnswers 3 = .ok (.invokevirtual 104, 3) := by decide +kernel
theorem dX12_wrongAnswers_6 : decode cX12_wrongAnswers 6 = .ok (.istore_n 3, 1) := by decide +kernel
theorem dX12_wrongAnswers_7 : decode cX12_wrongAnswers 7 = .ok (.iload_n 3, 1) := by decide +kernel
theorem dX12_wrongAnswers_8 : decode cX12_wrongAnswers 8 = .ok (.ifCond .eq 7, 3) := by decide +kernel
theorem dX12_wrongAnswers_11 : decode cX12_wrongAnswers 11 = .ok (.iload_n 3, 1) := by decide +kernel
theorem dX12_wrongAnswers_12 : decode cX12_wrongAnswers 12 = .ok (.goto 23, 3) := by decide +kernel
theorem dX12_wrongAnswers_15 : decode cX12_wrongAnswers 15 = .ok (.aload_n 0, 1) := by decide +kernel
theorem dX12_wrongAnswers_16 : decode cX12_wrongAnswers 16 = .ok (.getfield 25, 3) := by decide +kernel
theorem dX12_wrongAnswers_19 : decode cX12_wrongAnswers 19 = .ok (.iload_n 2, 1) := by decide +kernel
theorem dX12_wrongAnswers_20 : decode cX12_wrongAnswers 20 = .ok (.iaload, 1) := by decide +kernel
theorem dX12_wrongAnswers_21 : decode cX12_wrongAnswers 21 = .ok (.aload_n 0, 1) := by decide +kernel
theorem dX12_wrongAnswers_22 : decode cX12_wrongAnswers 22 = .ok (.iload_n 1, 1) := by decide +kernel
theorem dX12_wrongAnswers_23 : decode cX12_wrongAnswers 23 = .ok (.invokevirtual 171, 3) := by decide +kernel
theorem dX12_wrongAnswers_26 : decode cX12_wrongAnswers 26 = .ok (.if_icmp .ne 7, 3) := by decide +kernel
theorem dX12_wrongAnswers_29 : decode cX12_wrongAnswers 29 = .ok (.iconst 0, 1) := by decide +kernel
theorem dX12_wrongAnswers_30 : decode cX12_wrongAnswers 30 = .ok (.goto 5, 3) := by decide +kernel
theorem dX12_wrongAnswers_33 : decode cX12_wrongAnswers 33 = .ok (.bipush (-13), 2) := by decide +kernel
theorem dX12_wrongAnswers_35 : decode cX12_wrongAnswers 35 = .ok (.ireturn, 1) := by decide +kernel
theorem dX12_wrongBoth_0 : decode cX12_wrongBoth 0 = .ok (.aload_n 0, 1) := by decide +kernel
theorem dX12_wrongBoth_1 : decode cX12_wrongBoth 1 = .ok (.iload_n 1, 1) := by decide +kernel
theorem dX12_wrongBoth_2 : decode cX12_wrongBoth 2 = .ok (.invokevirtual 175, 3) := by decide +kernel
theorem dX12_wrongBoth_5 : decode cX12_wrongBoth 5 = .ok (.istore_n 3, 1) := by decide +kernel
theorem dX12_wrongBoth_6 : decode cX12_wrongBoth 6 = .ok (.iload_n 3, 1) := by decide +kernel
theorem dX12_wrongBoth_7 : decode cX12_wrongBoth 7 = .ok (.ifCond .eq 7, 3) := by decide +kernel
theorem dX12_wrongBoth_10 : decode cX12_wrongBoth 10 = .ok (.iload_n 3, 1) := by decide +kernel
theorem dX12_wrongBoth_11 : decode cX12_wrongBoth 11 = .ok (.goto 9, 3) := by decide +kernel
theorem dX12_wrongBoth_14 : decode cX12_wrongBoth 14 = .ok (.aload_n 0, 1) := by decide +kernel
theorem dX12_wrongBoth_15 : decode cX12_wrongBoth 15 = .ok (.iload_n 1, 1) := by decide +kernel
theorem dX12_wrongBoth_16 : decode cX12_wrongBoth 16 = .ok (.iload_n 2, 1) := by decide +kernel
theorem dX12_wrongBoth_17 : decode cX12_wrongBoth 17 = .ok (.invokevirtual 178, 3) := by decide +kernel
theorem dX12_wrongBoth_20 : decode cX12_wrongBoth 20 = .ok (.ireturn, 1) := by decide +kernel
theorem dX12_slipsOf_0 : decode cX12_slipsOf 0 = .ok (.iconst 0, 1) := by decide +kernel
theorem dX12_slipsOf_1 : decode cX12_slipsOf 1 = .ok (.istore 4, 2) := by decide +kernel
theorem dX12_slipsOf_3 : decode cX12_slipsOf 3 = .ok (.iconst 0, 1) := by decide +kernel
theorem dX12_slipsOf_4 : decode cX12_slipsOf 4 = .ok (.istore 5, 2) := by decide +kernel
theorem dX12_slipsOf_6 : decode cX12_slipsOf 6 = .ok (.iload 5, 2) := by decide +kernel
theorem dX12_slipsOf_8 : decode cX12_slipsOf 8 = .ok (.aload_n 0, 1) := by decide +kernel
theorem dX12_slipsOf_9 : decode cX12_slipsOf 9 = .ok (.iload_n 2, 1) := by decide +kernel
theorem dX12_slipsOf_10 : decode cX12_slipsOf 10 = .ok (.invokevirtual 171, 3) := by decide +kernel
theorem dX12_slipsOf_13 : decode cX12_slipsOf 13 = .ok (.if_icmp .ge 63, 3) := by decide +kernel
theorem dX12_slipsOf_16 : decode cX12_slipsOf 16 = .ok (.aload_n 0, 1) := by decide +kernel
theorem dX12_slipsOf_17 : decode cX12_slipsOf 17 = .ok (.getfield 28, 3) := by decide +kernel
theorem dX12_slipsOf_20 : decode cX12_slipsOf 20 = .ok (.bipush 100, 2) := by decide +kernel
theorem dX12_slipsOf_22 : decode cX12_slipsOf 22 = .ok (.iload_n 3, 1) := by decide +kernel
theorem dX12_slipsOf_23 : decode cX12_slipsOf 23 = .ok (.imul, 1) := by decide +kernel
theorem dX12_slipsOf_24 : decode cX12_slipsOf 24 = .ok (.iload 5, 2) := by decide +kernel
theorem dX12_slipsOf_26 : decode cX12_slipsOf 26 = .ok (.iadd, 1) := by decide +kernel
theorem dX12_slipsOf_27 : decode cX12_slipsOf 27 = .ok (.iaload, 1) := by decide +kernel
theorem dX12_slipsOf_28 : decode cX12_slipsOf 28 = .ok (.istore 6, 2) := by decide +kernel
theorem dX12_slipsOf_30 : decode cX12_slipsOf 30 = .ok (.iload 4, 2) := by decide +kernel
theorem dX12_slipsOf_32 : decode cX12_slipsOf 32 = .ok (.iload 6, 2) := by decide +kernel
theorem dX12_slipsOf_34 : decode cX12_slipsOf 34 = .ok (.iconst (-1), 1) := by decide +kernel
theorem dX12_slipsOf_35 : decode cX12_slipsOf 35 = .ok (.if_icmp .eq 31, 3) := by decide +kernel
theorem dX12_slipsOf_38 : decode cX12_slipsOf 38 = .ok (.iload 6, 2) := by decide +kernel
theorem dX12_slipsOf_40 : decode cX12_slipsOf 40 = .ok (.aload_n 0, 1) := by decide +kernel
theorem dX12_slipsOf_41 : decode cX12_slipsOf 41 = .ok (.iload_n 1, 1) := by decide +kernel
theorem dX12_slipsOf_42 : decode cX12_slipsOf 42 = .ok (.aload_n 0, 1) := by decide +kernel
theorem dX12_slipsOf_43 : decode cX12_slipsOf 43 = .ok (.iload_n 2, 1) := by decide +kernel
theorem dX12_slipsOf_44 : decode cX12_slipsOf 44 = .ok (.iload 5, 2) := by decide +kernel
theorem dX12_slipsOf_46 : decode cX12_slipsOf 46 = .ok (.invokevirtual 181, 3) := by decide +kernel
theorem dX12_slipsOf_49 : decode cX12_slipsOf 49 = .ok (.aload_n 0, 1) := by decide +kernel
theorem dX12_slipsOf_50 : decode cX12_slipsOf 50 = .ok (.iload_n 2, 1) := by decide +kernel
theorem dX12_slipsOf_51 : decode cX12_slipsOf 51 = .ok (.iload 5, 2) := by decide +kernel
theorem dX12_slipsOf_53 : decode cX12_slipsOf 53 = .ok (.invokevirtual 184, 3) := by decide +kernel
theorem dX12_slipsOf_56 : decode cX12_slipsOf 56 = .ok (.invokevirtual 157, 3) := by decide +kernel
theorem dX12_slipsOf_59 : decode cX12_slipsOf 59 = .ok (.if_icmp .eq 7, 3) := by decide +kernel
theorem dX12_slipsOf_62 : decode cX12_slipsOf 62 = .ok (.iconst 1, 1) := by decide +kernel
theorem dX12_slipsOf_63 : decode cX12_slipsOf 63 = .ok (.goto 4, 3) := by decide +kernel
theorem dX12_slipsOf_66 : decode cX12_slipsOf 66 = .ok (.iconst 0, 1) := by decide +kernel
theorem dX12_slipsOf_67 : decode cX12_slipsOf 67 = .ok (.iadd, 1) := by decide +kernel
theorem dX12_slipsOf_68 : decode cX12_slipsOf 68 = .ok (.istore 4, 2) := by decide +kernel
theorem dX12_slipsOf_70 : decode cX12_slipsOf 70 = .ok (.iinc 5 1, 3) := by decide +kernel
theorem dX12_slipsOf_73 : decode cX12_slipsOf 73 = .ok (.goto (-67), 3) := by decide +kernel
theorem dX12_slipsOf_76 : decode cX12_slipsOf 76 = .ok (.iload 4, 2) := by decide +kernel
theorem dX12_slipsOf_78 : decode cX12_slipsOf 78 = .ok (.ireturn, 1) := by decide +kernel
theorem dX12_slip_0 : decode cX12_slip 0 = .ok (.aload_n 0, 1) := by decide +kernel
theorem dX12_slip_1 : decode cX12_slip 1 = .ok (.iload_n 1, 1) := by decide +kernel
theorem dX12_slip_2 : decode cX12_slip 2 = .ok (.invokevirtual 114, 3) := by decide +kernel
theorem dX12_slip_5 : decode cX12_slip 5 = .ok (.ifCond .ne 5, 3) := by decide +kernel
theorem dX12_slip_8 : decode cX12_slip 8 = .ok (.iconst (-1), 1) := by decide +kernel
theorem dX12_slip_9 : decode cX12_slip 9 = .ok (.ireturn, 1) := by decide +kernel
theorem dX12_slip_10 : decode cX12_slip 10 = .ok (.aload_n 0, 1) := by decide +kernel
theorem dX12_slip_11 : decode cX12_slip 11 = .ok (.iload_n 2, 1) := by decide +kernel
theorem dX12_slip_12 : decode cX12_slip 12 = .ok (.iload_n 3, 1) := by decide +kernel
theorem dX12_slip_13 : decode cX12_slip 13 = .ok (.invokevirtual 187, 3) := by decide +kernel
theorem dX12_slip_16 : decode cX12_slip 16 = .ok (.istore 4, 2) := by decide +kernel
theorem dX12_slip_18 : decode cX12_slip 18 = .ok (.iload 4, 2) := by decide +kernel
theorem dX12_slip_20 : decode cX12_slip 20 = .ok (.ifCond .eq 8, 3) := by decide +kernel
theorem dX12_slip_23 : decode cX12_slip 23 = .ok (.iload 4, 2) := by decide +kernel
theorem dX12_slip_25 : decode cX12_slip 25 = .ok (.goto 10, 3) := by decide +kernel
theorem dX12_slip_28 : decode cX12_slip 28 = .ok (.aload_n 0, 1) := by decide +kernel
theorem dX12_slip_29 : decode cX12_slip 29 = .ok (.iload_n 1, 1) := by decide +kernel
theorem dX12_slip_30 : decode cX12_slip 30 = .ok (.iload_n 2, 1) := by decide +kernel
theorem dX12_slip_31 : decode cX12_slip 31 = .ok (.iload_n 3, 1) := by decide +kernel
theorem dX12_slip_32 : decode cX12_slip 32 = .ok (.invokevirtual 190, 3) := by decide +kernel
theorem dX12_slip_35 : decode cX12_slip 35 = .ok (.ireturn, 1) := by decide +kernel
theorem dX12_fitting_0 : decode cX12_fitting 0 = .ok (.iconst 0, 1) := by decide +kernel
theorem dX12_fitting_1 : decode cX12_fitting 1 = .ok (.istore 4, 2) := by decide +kernel
theorem dX12_fitting_3 : decode cX12_fitting 3 = .ok (.iconst 0, 1) := by decide +kernel
theorem dX12_fitting_4 : decode cX12_fitting 4 = .ok (.istore 5, 2) := by decide +kernel
theorem dX12_fitting_6 : decode cX12_fitting 6 = .ok (.iload 5, 2) := by decide +kernel
theorem dX12_fitting_8 : decode cX12_fitting 8 = .ok (.aload_n 0, 1) := by decide +kernel
theorem dX12_fitting_9 : decode cX12_fitting 9 = .ok (.getfield 9, 3) := by decide +kernel
theorem dX12_fitting_12 : decode cX12_fitting 12 = .ok (.iconst 0, 1) := by decide +kernel
theorem dX12_fitting_13 : decode cX12_fitting 13 = .ok (.iaload, 1) := by decide +kernel
theorem dX12_fitting_14 : decode cX12_fitting 14 = .ok (.if_icmp .ge 34, 3) := by decide +kernel
theorem dX12_fitting_17 : decode cX12_fitting 17 = .ok (.iload 4, 2) := by decide +kernel
theorem dX12_fitting_19 : decode cX12_fitting 19 = .ok (.aload_n 0, 1) := by decide +kernel
theorem dX12_fitting_20 : decode cX12_fitting 20 = .ok (.iload 5, 2) := by decide +kernel
theorem dX12_fitting_22 : decode cX12_fitting 22 = .ok (.iload_n 1, 1) := by decide +kernel
theorem dX12_fitting_23 : decode cX12_fitting 23 = .ok (.iload_n 2, 1) := by decide +kernel
theorem dX12_fitting_24 : decode cX12_fitting 24 = .ok (.invokevirtual 190, 3) := by decide +kernel
theorem dX12_fitting_27 : decode cX12_fitting 27 = .ok (.iload_n 3, 1) := by decide +kernel
theorem dX12_fitting_28 : decode cX12_fitting 28 = .ok (.if_icmp .gt 10, 3) := by decide +kernel
theorem dX12_fitting_31 : decode cX12_fitting 31 = .ok (.iconst 1, 1) := by decide +kernel
theorem dX12_fitting_32 : decode cX12_fitting 32 = .ok (.iload 5, 2) := by decide +kernel
theorem dX12_fitting_34 : decode cX12_fitting 34 = .ok (.ishl, 1) := by decide +kernel
theorem dX12_fitting_35 : decode cX12_fitting 35 = .ok (.goto 4, 3) := by decide +kernel
theorem dX12_fitting_38 : decode cX12_fitting 38 = .ok (.iconst 0, 1) := by decide +kernel
theorem dX12_fitting_39 : decode cX12_fitting 39 = .ok (.ior, 1) := by decide +kernel
theorem dX12_fitting_40 : decode cX12_fitting 40 = .ok (.istore 4, 2) := by decide +kernel
theorem dX12_fitting_42 : decode cX12_fitting 42 = .ok (.iinc 5 1, 3) := by decide +kernel
theorem dX12_fitting_45 : decode cX12_fitting 45 = .ok (.goto (-39), 3) := by decide +kernel
theorem dX12_fitting_48 : decode cX12_fitting 48 = .ok (.iload 4, 2) := by decide +kernel
theorem dX12_fitting_50 : decode cX12_fitting 50 = .ok (.ireturn, 1) := by decide +kernel
theorem dX12_fits_0 : decode cX12_fits 0 = .ok (.iload_n 3, 1) := by decide +kernel
theorem dX12_fits_1 : decode cX12_fits 1 = .ok (.i2l, 1) := by decide +kernel
theorem dX12_fits_2 : decode cX12_fits 2 = .ok (.lconst 0, 1) := by decide +kernel
theorem dX12_fits_3 : decode cX12_fits 3 = .ok (.ldc2_w 193, 3) := by decide +kernel
theorem dX12_fits_6 : decode cX12_fits 6 = .ok (.invokestatic 62, 3) := by decide +kernel
theorem dX12_fits_9 : decode cX12_fits 9 = .ok (.ifCond .ne 5, 3) := by decide +kernel
theorem dX12_fits_12 : decode cX12_fits 12 = .ok (.iconst (-1), 1) := by decide +kernel
theorem dX12_fits_13 : decode cX12_fits 13 = .ok (.ireturn, 1) := by decide +kernel
theorem dX12_fits_14 : decode cX12_fits 14 = .ok (.aload_n 0, 1) := by decide +kernel
theorem dX12_fits_15 : decode cX12_fits 15 = .ok (.iload_n 1, 1) := by decide +kernel
theorem dX12_fits_16 : decode cX12_fits 16 = .ok (.iload_n 2, 1) := by decide +kernel
theorem dX12_fits_17 : decode cX12_fits 17 = .ok (.invokevirtual 187, 3) := by decide +kernel
theorem dX12_fits_20 : decode cX12_fits 20 = .ok (.istore 4, 2) := by decide +kernel
theorem dX12_fits_22 : decode cX12_fits 22 = .ok (.iload 4, 2) := by decide +kernel
theorem dX12_fits_24 : decode cX12_fits 24 = .ok (.ifCond .eq 8, 3) := by decide +kernel
theorem dX12_fits_27 : decode cX12_fits 27 = .ok (.iload 4, 2) := by decide +kernel
theorem dX12_fits_29 : decode cX12_fits 29 = .ok (.goto 10, 3) := by decide +kernel
theorem dX12_fits_32 : decode cX12_fits 32 = .ok (.aload_n 0, 1) := by decide +kernel
theorem dX12_fits_33 : decode cX12_fits 33 = .ok (.iload_n 1, 1) := by decide +kernel
theorem dX12_fits_34 : decode cX12_fits 34 = .ok (.iload_n 2, 1) := by decide +kernel
theorem dX12_fits_35 : decode cX12_fits 35 = .ok (.iload_n 3, 1) := by decide +kernel
theorem dX12_fits_36 : decode cX12_fits 36 = .ok (.invokevirtual 195, 3) := by decide +kernel
theorem dX12_fits_39 : decode cX12_fits 39 = .ok (.ireturn, 1) := by decide +kernel
theorem dX12_likely_0 : decode cX12_likely 0 = .ok (.aload_n 0, 1) := by decide +kernel
theorem dX12_likely_1 : decode cX12_likely 1 = .ok (.iload_n 1, 1) := by decide +kernel
theorem dX12_likely_2 : decode cX12_likely 2 = .ok (.iload_n 2, 1) := by decide +kernel
theorem dX12_likely_3 : decode cX12_likely 3 = .ok (.invokevirtual 187, 3) := by decide +kernel
theorem dX12_likely_6 : decode cX12_likely 6 = .ok (.istore_n 3, 1) := by decide +kernel
theorem dX12_likely_7 : decode cX12_likely 7 = .ok (.iload_n 3, 1) := by decide +kernel
theorem dX12_likely_8 : decode cX12_likely 8 = .ok (.ifCond .eq 5, 3) := by decide +kernel
theorem dX12_likely_11 : decode cX12_likely 11 = .ok (.iload_n 3, 1) := by decide +kernel
theorem dX12_likely_12 : decode cX12_likely 12 = .ok (.ireturn, 1) := by decide +kernel
theorem dX12_likely_13 : decode cX12_likely 13 = .ok (.bipush (-4), 2) := by decide +kernel
theorem dX12_likely_15 : decode cX12_likely 15 = .ok (.istore 4, 2) := by decide +kernel
theorem dX12_likely_17 : decode cX12_likely 17 = .ok (.iconst 0, 1) := by decide +kernel
theorem dX12_likely_18 : decode cX12_likely 18 = .ok (.istore 5, 2) := by decide +kernel
theorem dX12_likely_20 : decode cX12_likely 20 = .ok (.iconst 0, 1) := by decide +kernel
theorem dX12_likely_21 : decode cX12_likely 21 = .ok (.istore 6, 2) := by decide +kernel
theorem dX12_likely_23 : decode cX12_likely 23 = .ok (.iload 6, 2) := by decide +kernel
theorem dX12_likely_25 : decode cX12_likely 25 = .ok (.aload_n 0, 1) := by decide +kernel
theorem dX12_likely_26 : decode cX12_likely 26 = .ok (.getfield 9, 3) := by decide +kernel
theorem dX12_likely_29 : decode cX12_likely 29 = .ok (.iconst 0, 1) := by decide +kernel
theorem dX12_likely_30 : decode cX12_likely 30 = .ok (.iaload, 1) := by decide +kernel
theorem dX12_likely_31 : decode cX12_likely 31 = .ok (.if_icmp .ge 66, 3) := by decide +kernel
theorem dX12_likely_34 : decode cX12_likely 34 = .ok (.aload_n 0, 1) := by decide +kernel
theorem dX12_likely_35 : decode cX12_likely 35 = .ok (.iload 6, 2) := by decide +kernel
theorem dX12_likely_37 : decode cX12_likely 37 = .ok (.iload_n 1, 1) := by decide +kernel
theorem dX12_likely_38 : decode cX12_likely 38 = .ok (.iload_n 2, 1) := by decide +kernel
theorem dX12_likely_39 : decode cX12_likely 39 = .ok (.invokevirtual 190, 3) := by decide +kernel
theorem dX12_likely_42 : decode cX12_likely 42 = .ok (.istore 7, 2) := by decide +kernel
theorem dX12_likely_44 : decode cX12_likely 44 = .ok (.iload 4, 2) := by decide +kernel
theorem dX12_likely_46 : decode cX12_likely 46 = .ok (.ifCond .lt 37, 3) := by decide +kernel
theorem dX12_likely_49 : decode cX12_likely 49 = .ok (.iload 7, 2) := by decide +kernel
theorem dX12_likely_51 : decode cX12_likely 51 = .ok (.iload 5, 2) := by decide +kernel
theorem dX12_likely_53 : decode cX12_likely 53 = .ok (.if_icmp .gt 38, 3) := by decide +kernel
theorem dX12_likely_56 : decode cX12_likely 56 = .ok (.iload 7, 2) := by decide +kernel
theorem dX12_likely_58 : decode cX12_likely 58 = .ok (.iload 5, 2) := by decide +kernel
theorem dX12_likely_60 : decode cX12_likely 60 = .ok (.if_icmp .ne 23, 3) := by decide +kernel
theorem dX12_likely_63 : decode cX12_likely 63 = .ok (.aload_n 0, 1) := by decide +kernel
theorem dX12_likely_64 : decode cX12_likely 64 = .ok (.iload 6, 2) := by decide +kernel
theorem dX12_likely_66 : decode cX12_likely 66 = .ok (.iconst 2, 1) := by decide +kernel
theorem dX12_likely_67 : decode cX12_likely 67 = .ok (.invokevirtual 119, 3) := by decide +kernel
theorem dX12_likely_70 : decode cX12_likely 70 = .ok (.aload_n 0, 1) := by decide +kernel
theorem dX12_likely_71 : decode cX12_likely 71 = .ok (.iload 4, 2) := by decide +kernel
theorem dX12_likely_73 : decode cX12_likely 73 = .ok (.iconst 2, 1) := by decide +kernel
theorem dX12_likely_74 : decode cX12_likely 74 = .ok (.invokevirtual 119, 3) := by decide +kernel
theorem dX12_likely_77 : decode cX12_likely 77 = .ok (.if_icmp .gt 6, 3) := by decide +kernel
theorem dX12_likely_80 : decode cX12_likely 80 = .ok (.goto 11, 3) := by decide +kernel
theorem dX12_likely_83 : decode cX12_likely 83 = .ok (.iload 6, 2) := by decide +kernel
theorem dX12_likely_85 : decode cX12_likely 85 = .ok (.istore 4, 2) := by decide +kernel
theorem dX12_likely_87 : decode cX12_likely 87 = .ok (.iload 7, 2) := by decide +kernel
theorem dX12_likely_89 : decode cX12_likely 89 = .ok (.istore 5, 2) := by decide +kernel
theorem dX12_likely_91 : decode cX12_likely 91 = .ok (.iinc 6 1, 3) := by decide +kernel
theorem dX12_likely_94 : decode cX12_likely 94 = .ok (.goto (-71), 3) := by decide +kernel
theorem dX12_likely_97 : decode cX12_likely 97 = .ok (.iload 4, 2) := by decide +kernel
theorem dX12_likely_99 : decode cX12_likely 99 = .ok (.ireturn, 1) := by decide +kernel
theorem dX12_common_0 : decode cX12_common 0 = .ok (.iload_n 1, 1) := by decide +kernel
theorem dX12_common_1 : decode cX12_common 1 = .ok (.ifCond .ne 7, 3) := by decide +kernel
theorem dX12_common_4 : decode cX12_common 4 = .ok (.iload_n 0, 1) := by decide +kernel
theorem dX12_common_5 : decode cX12_common 5 = .ok (.goto 10, 3) := by decide +kernel
theorem dX12_common_8 : decode cX12_common 8 = .ok (.iload_n 1, 1) := by decide +kernel
theorem dX12_common_9 : decode cX12_common 9 = .ok (.iload_n 0, 1) := by decide +kernel
theorem dX12_common_10 : decode cX12_common 10 = .ok (.iload_n 1, 1) := by decide +kernel
theorem dX12_common_11 : decode cX12_common 11 = .ok (.irem, 1) := by decide +kernel
theorem dX12_common_12 : decode cX12_common 12 = .ok (.invokestatic 198, 3) := by decide +kernel
theorem dX12_common_15 : decode cX12_common 15 = .ok (.ireturn, 1) := by decide +kernel
theorem dX12_odds_0 : decode cX12_odds 0 = .ok (.aload_n 0, 1) := by decide +kernel
theorem dX12_odds_1 : decode cX12_odds 1 = .ok (.iload_n 1, 1) := by decide +kernel
theorem dX12_odds_2 : decode cX12_odds 2 = .ok (.invokevirtual 114, 3) := by decide +kernel
theorem dX12_odds_5 : decode cX12_odds 5 = .ok (.ifCond .eq 14, 3) := by decide +kernel
theorem dX12_odds_8 : decode cX12_odds 8 = .ok (.iload 4, 2) := by decide +kernel
theorem dX12_odds_10 : decode cX12_odds 10 = .ok (.i2l, 1) := by decide +kernel
theorem dX12_odds_11 : decode cX12_odds 11 = .ok (.lconst 0, 1) := by decide +kernel
theorem dX12_odds_12 : decode cX12_odds 12 = .ok (.lconst 1, 1) := by decide +kernel
theorem dX12_odds_13 : decode cX12_odds 13 = .ok (.invokestatic 62, 3) := by decide +kernel
theorem dX12_odds_16 : decode cX12_odds 16 = .ok (.ifCond .ne 5, 3) := by decide +kernel
theorem dX12_odds_19 : decode cX12_odds 19 = .ok (.iconst (-1), 1) := by decide +kernel
theorem dX12_odds_20 : decode cX12_odds 20 = .ok (.ireturn, 1) := by decide +kernel
theorem dX12_odds_21 : decode cX12_odds 21 = .ok (.aload_n 0, 1) := by decide +kernel
theorem dX12_odds_22 : decode cX12_odds 22 = .ok (.iload_n 2, 1) := by decide +kernel
theorem dX12_odds_23 : decode cX12_odds 23 = .ok (.iload_n 3, 1) := by decide +kernel
theorem dX12_odds_24 : decode cX12_odds 24 = .ok (.invokevirtual 187, 3) := by decide +kernel
theorem dX12_odds_27 : decode cX12_odds 27 = .ok (.istore 5, 2) := by decide +kernel
theorem dX12_odds_29 : decode cX12_odds 29 = .ok (.iload 5, 2) := by decide +kernel
theorem dX12_odds_31 : decode cX12_odds 31 = .ok (.ifCond .eq 6, 3) := by decide +kernel
theorem dX12_odds_34 : decode cX12_odds 34 = .ok (.iload 5, 2) := by decide +kernel
theorem dX12_odds_36 : decode cX12_odds 36 = .ok (.ireturn, 1) := by decide +kernel
theorem dX12_odds_37 : decode cX12_odds 37 = .ok (.iconst 0, 1) := by decide +kernel
theorem dX12_odds_38 : decode cX12_odds 38 = .ok (.istore 6, 2) := by decide +kernel
theorem dX12_odds_40 : decode cX12_odds 40 = .ok (.iconst 0, 1) := by decide +kernel
theorem dX12_odds_41 : decode cX12_odds 41 = .ok (.istore 7, 2) := by decide +kernel
theorem dX12_odds_43 : decode cX12_odds 43 = .ok (.iconst 0, 1) := by decide +kernel
theorem dX12_odds_44 : decode cX12_odds 44 = .ok (.istore 8, 2) := by decide +kernel
theorem dX12_odds_46 : decode cX12_odds 46 = .ok (.iload 8, 2) := by decide +kernel
theorem dX12_odds_48 : decode cX12_odds 48 = .ok (.aload_n 0, 1) := by decide +kernel
theorem dX12_odds_49 : decode cX12_odds 49 = .ok (.getfield 9, 3) := by decide +kernel
theorem dX12_odds_52 : decode cX12_odds 52 = .ok (.iconst 0, 1) := by decide +kernel
theorem dX12_odds_53 : decode cX12_odds 53 = .ok (.iaload, 1) := by decide +kernel
theorem dX12_odds_54 : decode cX12_odds 54 = .ok (.if_icmp .ge 52, 3) := by decide +kernel
theorem dX12_odds_57 : decode cX12_odds 57 = .ok (.aload_n 0, 1) := by decide +kernel
theorem dX12_odds_58 : decode cX12_odds 58 = .ok (.iload 8, 2) := by decide +kernel
theorem dX12_odds_60 : decode cX12_odds 60 = .ok (.iconst 2, 1) := by decide +kernel
theorem dX12_odds_61 : decode cX12_odds 61 = .ok (.invokevirtual 119, 3) := by decide +kernel
theorem dX12_odds_64 : decode cX12_odds 64 = .ok (.bipush 12, 2) := by decide +kernel
theorem dX12_odds_66 : decode cX12_odds 66 = .ok (.aload_n 0, 1) := by decide +kernel
theorem dX12_odds_67 : decode cX12_odds 67 = .ok (.iload 8, 2) := by decide +kernel
theorem dX12_odds_69 : decode cX12_odds 69 = .ok (.iload_n 2, 1) := by decide +kernel
theorem dX12_odds_70 : decode cX12_odds 70 = .ok (.iload_n 3, 1) := by decide +kernel
theorem dX12_odds_71 : decode cX12_odds 71 = .ok (.invokevirtual 190, 3) := by decide +kernel
theorem dX12_odds_74 : decode cX12_odds 74 = .ok (.isub, 1) := by decide +kernel
theorem dX12_odds_75 : decode cX12_odds 75 = .ok (.ishl, 1) := by decide +kernel
theorem dX12_odds_76 : decode cX12_odds 76 = .ok (.istore 9, 2) := by decide +kernel
theorem dX12_odds_78 : decode cX12_odds 78 = .ok (.iload 7, 2) := by decide +kernel
theorem dX12_odds_80 : decode cX12_odds 80 = .ok (.iload 9, 2) := by decide +kernel
theorem dX12_odds_82 : decode cX12_odds 82 = .ok (.iadd, 1) := by decide +kernel
theorem dX12_odds_83 : decode cX12_odds 83 = .ok (.istore 7, 2) := by decide +kernel
theorem dX12_odds_85 : decode cX12_odds 85 = .ok (.iload 8, 2) := by decide +kernel
theorem dX12_odds_87 : decode cX12_odds 87 = .ok (.iload_n 1, 1) := by decide +kernel
theorem dX12_odds_88 : decode cX12_odds 88 = .ok (.if_icmp .ne 8, 3) := by decide +kernel
theorem dX12_odds_91 : decode cX12_odds 91 = .ok (.iload 9, 2) := by decide +kernel
theorem dX12_odds_93 : decode cX12_odds 93 = .ok (.goto 5, 3) := by decide +kernel
theorem dX12_odds_96 : decode cX12_odds 96 = .ok (.iload 6, 2) := by decide +kernel
theorem dX12_odds_98 : decode cX12_odds 98 = .ok (.istore 6, 2) := by decide +kernel
theorem dX12_odds_100 : decode cX12_odds 100 = .ok (.iinc 8 1, 3) := by decide +kernel
theorem dX12_odds_103 : decode cX12_odds 103 = .ok (.goto (-57), 3) := by decide +kernel
theorem dX12_odds_106 : decode cX12_odds 106 = .ok (.iload 7, 2) := by decide +kernel
theorem dX12_odds_108 : decode cX12_odds 108 = .ok (.iload 6, 2) := by decide +kernel
theorem dX12_odds_110 : decode cX12_odds 110 = .ok (.invokestatic 198, 3) := by decide +kernel
theorem dX12_odds_113 : decode cX12_odds 113 = .ok (.istore 8, 2) := by decide +kernel
theorem dX12_odds_115 : decode cX12_odds 115 = .ok (.iload 4, 2) := by decide +kernel
theorem dX12_odds_117 : decode cX12_odds 117 = .ok (.ifCond .ne 11, 3) := by decide +kernel
theorem dX12_odds_120 : decode cX12_odds 120 = .ok (.iload 6, 2) := by decide +kernel
theorem dX12_odds_122 : decode cX12_odds 122 = .ok (.iload 8, 2) := by decide +kernel
theorem dX12_odds_124 : decode cX12_odds 124 = .ok (.idiv, 1) := by decide +kernel
theorem dX12_odds_125 : decode cX12_odds 125 = .ok (.goto 8, 3) := by decide +kernel
theorem dX12_odds_128 : decode cX12_odds 128 = .ok (.iload 7, 2) := by decide +kernel
theorem dX12_odds_130 : decode cX12_odds 130 = .ok (.iload 8, 2) := by decide +kernel
theorem dX12_odds_132 : decode cX12_odds 132 = .ok (.idiv, 1) := by decide +kernel
theorem dX12_odds_133 : decode cX12_odds 133 = .ok (.ireturn, 1) := by decide +kernel
theorem dX12_held_0 : decode cX12_held 0 = .ok (.iload_n 3, 1) := by decide +kernel
theorem dX12_held_1 : decode cX12_held 1 = .ok (.sipush 10000, 3) := by decide +kernel
theorem dX12_held_4 : decode cX12_held 4 = .ok (.idiv, 1) := by decide +kernel
theorem dX12_held_5 : decode cX12_held 5 = .ok (.istore 6, 2) := by decide +kernel
theorem dX12_held_7 : decode cX12_held 7 = .ok (.iload_n 3, 1) := by decide +kernel
theorem dX12_held_8 : decode cX12_held 8 = .ok (.sipush 10000, 3) := by decide +kernel
theorem dX12_held_11 : decode cX12_held 11 = .ok (.irem, 1) := by decide +kernel
theorem dX12_held_12 : decode cX12_held 12 = .ok (.istore 7, 2) := by decide +kernel
theorem dX12_held_14 : decode cX12_held 14 = .ok (.iload_n 3, 1) := by decide +kernel
theorem dX12_held_15 : decode cX12_held 15 = .ok (.ifCond .lt 37, 3) := by decide +kernel
theorem dX12_held_18 : decode cX12_held 18 = .ok (.iload 6, 2) := by decide +kernel
theorem dX12_held_20 : decode cX12_held 20 = .ok (.iload 7, 2) := by decide +kernel
theorem dX12_held_22 : decode cX12_held 22 = .ok (.invokestatic 153, 3) := by decide +kernel
theorem dX12_held_25 : decode cX12_held 25 = .ok (.ifCond .eq 27, 3) := by decide +kernel
theorem dX12_held_28 : decode cX12_held 28 = .ok (.iload 4, 2) := by decide +kernel
theorem dX12_held_30 : decode cX12_held 30 = .ok (.i2l, 1) := by decide +kernel
theorem dX12_held_31 : decode cX12_held 31 = .ok (.lconst 0, 1) := by decide +kernel
theorem dX12_held_32 : decode cX12_held 32 = .ok (.ldc2_w 68, 3) := by decide +kernel
theorem dX12_held_35 : decode cX12_held 35 = .ok (.invokestatic 62, 3) := by decide +kernel
theorem dX12_held_38 : decode cX12_held 38 = .ok (.ifCond .eq 14, 3) := by decide +kernel
theorem dX12_held_41 : decode cX12_held 41 = .ok (.iload 5, 2) := by decide +kernel
theorem dX12_held_43 : decode cX12_held 43 = .ok (.i2l, 1) := by decide +kernel
theorem dX12_held_44 : decode cX12_held 44 = .ok (.lconst 0, 1) := by decide +kernel
theorem dX12_held_45 : decode cX12_held 45 = .ok (.lconst 1, 1) := by decide +kernel
theorem dX12_held_46 : decode cX12_held 46 = .ok (.invokestatic 62, 3) := by decide +kernel
theorem dX12_held_49 : decode cX12_held 49 = .ok (.ifCond .ne 5, 3) := by decide +kernel
theorem dX12_held_52 : decode cX12_held 52 = .ok (.iconst (-1), 1) := by decide +kernel
theorem dX12_held_53 : decode cX12_held 53 = .ok (.ireturn, 1) := by decide +kernel
theorem dX12_held_54 : decode cX12_held 54 = .ok (.aload_n 0, 1) := by decide +kernel
theorem dX12_held_55 : decode cX12_held 55 = .ok (.iload_n 1, 1) := by decide +kernel
theorem dX12_held_56 : decode cX12_held 56 = .ok (.iload_n 2, 1) := by decide +kernel
theorem dX12_held_57 : decode cX12_held 57 = .ok (.invokevirtual 187, 3) := by decide +kernel
theorem dX12_held_60 : decode cX12_held 60 = .ok (.istore 8, 2) := by decide +kernel
theorem dX12_held_62 : decode cX12_held 62 = .ok (.iload 8, 2) := by decide +kernel
theorem dX12_held_64 : decode cX12_held 64 = .ok (.ifCond .eq 6, 3) := by decide +kernel
theorem dX12_held_67 : decode cX12_held 67 = .ok (.iload 8, 2) := by decide +kernel
theorem dX12_held_69 : decode cX12_held 69 = .ok (.ireturn, 1) := by decide +kernel
theorem dX12_held_70 : decode cX12_held 70 = .ok (.aload_n 0, 1) := by decide +kernel
theorem dX12_held_71 : decode cX12_held 71 = .ok (.iload_n 1, 1) := by decide +kernel
theorem dX12_held_72 : decode cX12_held 72 = .ok (.iload_n 2, 1) := by decide +kernel
theorem dX12_held_73 : decode cX12_held 73 = .ok (.iconst 0, 1) := by decide +kernel
theorem dX12_held_74 : decode cX12_held 74 = .ok (.invokevirtual 195, 3) := by decide +kernel
theorem dX12_held_77 : decode cX12_held 77 = .ok (.istore 9, 2) := by decide +kernel
theorem dX12_held_79 : decode cX12_held 79 = .ok (.iconst 0, 1) := by decide +kernel
theorem dX12_held_80 : decode cX12_held 80 = .ok (.istore 10, 2) := by decide +kernel
theorem dX12_held_82 : decode cX12_held 82 = .ok (.iconst 0, 1) := by decide +kernel
theorem dX12_held_83 : decode cX12_held 83 = .ok (.istore 11, 2) := by decide +kernel
theorem dX12_held_85 : decode cX12_held 85 = .ok (.iconst 0, 1) := by decide +kernel
theorem dX12_held_86 : decode cX12_held 86 = .ok (.istore 12, 2) := by decide +kernel
theorem dX12_held_88 : decode cX12_held 88 = .ok (.iload 12, 2) := by decide +kernel
theorem dX12_held_90 : decode cX12_held 90 = .ok (.aload_n 0, 1) := by decide +kernel
theorem dX12_held_91 : decode cX12_held 91 = .ok (.getfield 9, 3) := by decide +kernel
theorem dX12_held_94 : decode cX12_held 94 = .ok (.iconst 0, 1) := by decide +kernel
theorem dX12_held_95 : decode cX12_held 95 = .ok (.iaload, 1) := by decide +kernel
theorem dX12_held_96 : decode cX12_held 96 = .ok (.if_icmp .ge 65, 3) := by decide +kernel
theorem dX12_held_99 : decode cX12_held 99 = .ok (.iload 9, 2) := by decide +kernel
theorem dX12_held_101 : decode cX12_held 101 = .ok (.iload 12, 2) := by decide +kernel
theorem dX12_held_103 : decode cX12_held 103 = .ok (.ishr, 1) := by decide +kernel
theorem dX12_held_104 : decode cX12_held 104 = .ok (.iconst 1, 1) := by decide +kernel
theorem dX12_held_105 : decode cX12_held 105 = .ok (.iand, 1) := by decide +kernel
theorem dX12_held_106 : decode cX12_held 106 = .ok (.ifCond .ne 6, 3) := by decide +kernel
theorem dX12_held_109 : decode cX12_held 109 = .ok (.goto 46, 3) := by decide +kernel
theorem dX12_held_112 : decode cX12_held 112 = .ok (.iload 11, 2) := by decide +kernel
theorem dX12_held_114 : decode cX12_held 114 = .ok (.aload_n 0, 1) := by decide +kernel
theorem dX12_held_115 : decode cX12_held 115 = .ok (.iload 12, 2) := by decide +kernel
theorem dX12_held_117 : decode cX12_held 117 = .ok (.iconst 2, 1) := by decide +kernel
theorem dX12_held_118 : decode cX12_held 118 = .ok (.invokevirtual 119, 3) := by decide +kernel
theorem dX12_held_121 : decode cX12_held 121 = .ok (.iadd, 1) := by decide +kernel
theorem dX12_held_122 : decode cX12_held 122 = .ok (.istore 11, 2) := by decide +kernel
theorem dX12_held_124 : decode cX12_held 124 = .ok (.iload 10, 2) := by decide +kernel
theorem dX12_held_126 : decode cX12_held 126 = .ok (.aload_n 0, 1) := by decide +kernel
theorem dX12_held_127 : decode cX12_held 127 = .ok (.iload 12, 2) := by decide +kernel
theorem dX12_held_129 : decode cX12_held 129 = .ok (.iload 6, 2) := by decide +kernel
theorem dX12_held_131 : decode cX12_held 131 = .ok (.iload 7, 2) := by decide +kernel
theorem dX12_held_133 : decode cX12_held 133 = .ok (.invokevirtual 157, 3) := by decide +kernel
theorem dX12_held_136 : decode cX12_held 136 = .ok (.iload 4, 2) := by decide +kernel
theorem dX12_held_138 : decode cX12_held 138 = .ok (.if_icmp .ne 13, 3) := by decide +kernel
theorem dX12_held_141 : decode cX12_held 141 = .ok (.aload_n 0, 1) := by decide +kernel
theorem dX12_held_142 : decode cX12_held 142 = .ok (.iload 12, 2) := by decide +kernel
theorem dX12_held_144 : decode cX12_held 144 = .ok (.iconst 2, 1) := by decide +kernel
theorem dX12_held_145 : decode cX12_held 145 = .ok (.invokevirtual 119, 3) := by decide +kernel
theorem dX12_held_148 : decode cX12_held 148 = .ok (.goto 4, 3) := by decide +kernel
theorem dX12_held_151 : decode cX12_held 151 = .ok (.iconst 0, 1) := by decide +kernel
theorem dX12_held_152 : decode cX12_held 152 = .ok (.iadd, 1) := by decide +kernel
theorem dX12_held_153 : decode cX12_held 153 = .ok (.istore 10, 2) := by decide +kernel
theorem dX12_held_155 : decode cX12_held 155 = .ok (.iinc 12 1, 3) := by decide +kernel
theorem dX12_held_158 : decode cX12_held 158 = .ok (.goto (-70), 3) := by decide +kernel
theorem dX12_held_161 : decode cX12_held 161 = .ok (.iload 9, 2) := by decide +kernel
theorem dX12_held_163 : decode cX12_held 163 = .ok (.ifCond .ne 6, 3) := by decide +kernel
theorem dX12_held_166 : decode cX12_held 166 = .ok (.bipush (-4), 2) := by decide +kernel
theorem dX12_held_168 : decode cX12_held 168 = .ok (.ireturn, 1) := by decide +kernel
theorem dX12_held_169 : decode cX12_held 169 = .ok (.iload 11, 2) := by decide +kernel
theorem dX12_held_171 : decode cX12_held 171 = .ok (.iload 10, 2) := by decide +kernel
theorem dX12_held_173 : decode cX12_held 173 = .ok (.invokestatic 198, 3) := by decide +kernel
theorem dX12_held_176 : decode cX12_held 176 = .ok (.istore 12, 2) := by decide +kernel
theorem dX12_held_178 : decode cX12_held 178 = .ok (.iload 5, 2) := by decide +kernel
theorem dX12_held_180 : decode cX12_held 180 = .ok (.ifCond .ne 11, 3) := by decide +kernel
theorem dX12_held_183 : decode cX12_held 183 = .ok (.iload 10, 2) := by decide +kernel
theorem dX12_held_185 : decode cX12_held 185 = .ok (.iload 12, 2) := by decide +kernel
theorem dX12_held_187 : decode cX12_held 187 = .ok (.idiv, 1) := by decide +kernel
theorem dX12_held_188 : decode cX12_held 188 = .ok (.goto 8, 3) := by decide +kernel
theorem dX12_held_191 : decode cX12_held 191 = .ok (.iload 11, 2) := by decide +kernel
theorem dX12_held_193 : decode cX12_held 193 = .ok (.iload 12, 2) := by decide +kernel
theorem dX12_held_195 : decode cX12_held 195 = .ok (.idiv, 1) := by decide +kernel
theorem dX12_held_196 : decode cX12_held 196 = .ok (.ireturn, 1) := by decide +kernel
theorem dX12_most_0 : decode cX12_most 0 = .ok (.iload_n 1, 1) := by decide +kernel
theorem dX12_most_1 : decode cX12_most 1 = .ok (.invokestatic 101, 3) := by decide +kernel
theorem dX12_most_4 : decode cX12_most 4 = .ok (.ifCond .eq 11, 3) := by decide +kernel
theorem dX12_most_7 : decode cX12_most 7 = .ok (.aload_n 0, 1) := by decide +kernel
theorem dX12_most_8 : decode cX12_most 8 = .ok (.iload_n 2, 1) := by decide +kernel
theorem dX12_most_9 : decode cX12_most 9 = .ok (.invokevirtual 165, 3) := by decide +kernel
theorem dX12_most_12 : decode cX12_most 12 = .ok (.ifCond .ne 5, 3) := by decide +kernel
theorem dX12_most_15 : decode cX12_most 15 = .ok (.iconst (-1), 1) := by decide +kernel
theorem dX12_most_16 : decode cX12_most 16 = .ok (.ireturn, 1) := by decide +kernel
theorem dX12_most_17 : decode cX12_most 17 = .ok (.aload_n 0, 1) := by decide +kernel
theorem dX12_most_18 : decode cX12_most 18 = .ok (.iload_n 1, 1) := by decide +kernel
theorem dX12_most_19 : decode cX12_most 19 = .ok (.invokevirtual 175, 3) := by decide +kernel
theorem dX12_most_22 : decode cX12_most 22 = .ok (.istore_n 3, 1) := by decide +kernel
theorem dX12_most_23 : decode cX12_most 23 = .ok (.iload_n 3, 1) := by decide +kernel
theorem dX12_most_24 : decode cX12_most 24 = .ok (.ifCond .eq 5, 3) := by decide +kernel
theorem dX12_most_27 : decode cX12_most 27 = .ok (.iload_n 3, 1) := by decide +kernel
theorem dX12_most_28 : decode cX12_most 28 = .ok (.ireturn, 1) := by decide +kernel
theorem dX12_most_29 : decode cX12_most 29 = .ok (.bipush (-4), 2) := by decide +kernel
theorem dX12_most_31 : decode cX12_most 31 = .ok (.istore 4, 2) := by decide +kernel
theorem dX12_most_33 : decode cX12_most 33 = .ok (.iconst 0, 1) := by decide +kernel
theorem dX12_most_34 : decode cX12_most 34 = .ok (.istore 5, 2) := by decide +kernel
theorem dX12_most_36 : decode cX12_most 36 = .ok (.iconst 0, 1) := by decide +kernel
theorem dX12_most_37 : decode cX12_most 37 = .ok (.istore 6, 2) := by decide +kernel
theorem dX12_most_39 : decode cX12_most 39 = .ok (.iload 6, 2) := by decide +kernel
theorem dX12_most_41 : decode cX12_most 41 = .ok (.aload_n 0, 1) := by decide +kernel
theorem dX12_most_42 : decode cX12_most 42 = .ok (.iload_n 1, 1) := by decide +kernel
theorem dX12_most_43 : decode cX12_most 43 = .ok (.invokevirtual 171, 3) := by decide +kernel
theorem dX12_most_46 : decode cX12_most 46 = .ok (.if_icmp .ge 53, 3) := by decide +kernel
theorem dX12_most_49 : decode cX12_most 49 = .ok (.aload_n 0, 1) := by decide +kernel
theorem dX12_most_50 : decode cX12_most 50 = .ok (.aload_n 0, 1) := by decide +kernel
theorem dX12_most_51 : decode cX12_most 51 = .ok (.iload_n 1, 1) := by decide +kernel
theorem dX12_most_52 : decode cX12_most 52 = .ok (.iload 6, 2) := by decide +kernel
theorem dX12_most_54 : decode cX12_most 54 = .ok (.invokevirtual 181, 3) := by decide +kernel
theorem dX12_most_57 : decode cX12_most 57 = .ok (.aload_n 0, 1) := by decide +kernel
theorem dX12_most_58 : decode cX12_most 58 = .ok (.iload_n 1, 1) := by decide +kernel
theorem dX12_most_59 : decode cX12_most 59 = .ok (.iload 6, 2) := by decide +kernel
theorem dX12_most_61 : decode cX12_most 61 = .ok (.invokevirtual 184, 3) := by decide +kernel
theorem dX12_most_64 : decode cX12_most 64 = .ok (.iload_n 2, 1) := by decide +kernel
theorem dX12_most_65 : decode cX12_most 65 = .ok (.invokevirtual 168, 3) := by decide +kernel
theorem dX12_most_68 : decode cX12_most 68 = .ok (.istore 7, 2) := by decide +kernel
theorem dX12_most_70 : decode cX12_most 70 = .ok (.iload 4, 2) := by decide +kernel
theorem dX12_most_72 : decode cX12_most 72 = .ok (.ifCond .lt 13, 3) := by decide +kernel
theorem dX12_most_75 : decode cX12_most 75 = .ok (.iload 7, 2) := by decide +kernel
theorem dX12_most_77 : decode cX12_most 77 = .ok (.iload 5, 2) := by decide +kernel
theorem dX12_most_79 : decode cX12_most 79 = .ok (.if_icmp .gt 6, 3) := by decide +kernel
theorem dX12_most_82 : decode cX12_most 82 = .ok (.goto 11, 3) := by decide +kernel
theorem dX12_most_85 : decode cX12_most 85 = .ok (.iload 6, 2) := by decide +kernel
theorem dX12_most_87 : decode cX12_most 87 = .ok (.istore 4, 2) := by decide +kernel
theorem dX12_most_89 : decode cX12_most 89 = .ok (.iload 7, 2) := by decide +kernel
theorem dX12_most_91 : decode cX12_most 91 = .ok (.istore 5, 2) := by decide +kernel
theorem dX12_most_93 : decode cX12_most 93 = .ok (.iinc 6 1, 3) := by decide +kernel
theorem dX12_most_96 : decode cX12_most 96 = .ok (.goto (-57), 3) := by decide +kernel
theorem dX12_most_99 : decode cX12_most 99 = .ok (.iload 4, 2) := by decide +kernel
theorem dX12_most_101 : decode cX12_most 101 = .ok (.ireturn, 1) := by decide +kernel
theorem dX12_findsParted_0 : decode cX12_findsParted 0 = .ok (.iconst 0, 1) := by decide +kernel
theorem dX12_findsParted_1 : decode cX12_findsParted 1 = .ok (.istore_n 2, 1) := by decide +kernel
theorem dX12_findsParted_2 : decode cX12_findsParted 2 = .ok (.iload_n 2, 1) := by decide +kernel
theorem dX12_findsParted_3 : decode cX12_findsParted 3 = .ok (.aload_n 0, 1) := by decide +kernel
theorem dX12_findsParted_4 : decode cX12_findsParted 4 = .ok (.getfield 9, 3) := by decide +kernel
theorem dX12_findsParted_7 : decode cX12_findsParted 7 = .ok (.iconst 0, 1) := by decide +kernel
theorem dX12_findsParted_8 : decode cX12_findsParted 8 = .ok (.iaload, 1) := by decide +kernel
theorem dX12_findsParted_9 : decode cX12_findsParted 9 = .ok (.if_icmp .ge 116, 3) := by decide +kernel
theorem dX12_findsParted_12 : decode cX12_findsParted 12 = .ok (.iconst 0, 1) := by decide +kernel
theorem dX12_findsParted_13 : decode cX12_findsParted 13 = .ok (.istore_n 3, 1) := by decide +kernel
theorem dX12_findsParted_14 : decode cX12_findsParted 14 = .ok (.iload_n 3, 1) := by decide +kernel
theorem dX12_findsParted_15 : decode cX12_findsParted 15 = .ok (.aload_n 0, 1) := by decide +kernel
theorem dX12_findsParted_16 : decode cX12_findsParted 16 = .ok (.getfield 9, 3) := by decide +kernel
theorem dX12_findsParted_19 : decode cX12_findsParted 19 = .ok (.iconst 0, 1) := by decide +kernel
theorem dX12_findsParted_20 : decode cX12_findsParted 20 = .ok (.iaload, 1) := by decide +kernel
theorem dX12_findsParted_21 : decode cX12_findsParted 21 = .ok (.if_icmp .ge 98, 3) := by decide +kernel
theorem dX12_findsParted_24 : decode cX12_findsParted 24 = .ok (.iconst 0, 1) := by decide +kernel
theorem dX12_findsParted_25 : decode cX12_findsParted 25 = .ok (.istore 4, 2) := by decide +kernel
theorem dX12_findsParted_27 : decode cX12_findsParted 27 = .ok (.iconst 0, 1) := by decide +kernel
theorem dX12_findsParted_28 : decode cX12_findsParted 28 = .ok (.istore 5, 2) := by decide +kernel
theorem dX12_findsParted_30 : decode cX12_findsParted 30 = .ok (.iload 5, 2) := by decide +kernel
theorem dX12_findsParted_32 : decode cX12_findsParted 32 = .ok (.aload_n 0, 1) := by decide +kernel
theorem dX12_findsParted_33 : decode cX12_findsParted 33 = .ok (.iload_n 1, 1) := by decide +kernel
theorem dX12_findsParted_34 : decode cX12_findsParted 34 = .ok (.invokevirtual 171, 3) := by decide +kernel
theorem dX12_findsParted_37 : decode cX12_findsParted 37 = .ok (.if_icmp .ge 63, 3) := by decide +kernel
theorem dX12_findsParted_40 : decode cX12_findsParted 40 = .ok (.iload 4, 2) := by decide +kernel
theorem dX12_findsParted_42 : decode cX12_findsParted 42 = .ok (.aload_n 0, 1) := by decide +kernel
theorem dX12_findsParted_43 : decode cX12_findsParted 43 = .ok (.iload_n 2, 1) := by decide +kernel
theorem dX12_findsParted_44 : decode cX12_findsParted 44 = .ok (.aload_n 0, 1) := by decide +kernel
theorem dX12_findsParted_45 : decode cX12_findsParted 45 = .ok (.iload_n 1, 1) := by decide +kernel
theorem dX12_findsParted_46 : decode cX12_findsParted 46 = .ok (.iload 5, 2) := by decide +kernel
theorem dX12_findsParted_48 : decode cX12_findsParted 48 = .ok (.invokevirtual 181, 3) := by decide +kernel
theorem dX12_findsParted_51 : decode cX12_findsParted 51 = .ok (.aload_n 0, 1) := by decide +kernel
theorem dX12_findsParted_52 : decode cX12_findsParted 52 = .ok (.iload_n 1, 1) := by decide +kernel
theorem dX12_findsParted_53 : decode cX12_findsParted 53 = .ok (.iload 5, 2) := by decide +kernel
theorem dX12_findsParted_55 : decode cX12_findsParted 55 = .ok (.invokevirtual 184, 3) := by decide +kernel
theorem dX12_findsParted_58 : decode cX12_findsParted 58 = .ok (.invokevirtual 157, 3) := by decide +kernel
theorem dX12_findsParted_61 : decode cX12_findsParted 61 = .ok (.aload_n 0, 1) := by decide +kernel
theorem dX12_findsParted_62 : decode cX12_findsParted 62 = .ok (.iload_n 3, 1) := by decide +kernel
theorem dX12_findsParted_63 : decode cX12_findsParted 63 = .ok (.aload_n 0, 1) := by decide +kernel
theorem dX12_findsParted_64 : decode cX12_findsParted 64 = .ok (.iload_n 1, 1) := by decide +kernel
theorem dX12_findsParted_65 : decode cX12_findsParted 65 = .ok (.iload 5, 2) := by decide +kernel
theorem dX12_findsParted_67 : decode cX12_findsParted 67 = .ok (.invokevirtual 181, 3) := by decide +kernel
theorem dX12_findsParted_70 : decode cX12_findsParted 70 = .ok (.aload_n 0, 1) := by decide +kernel
theorem dX12_findsParted_71 : decode cX12_findsParted 71 = .ok (.iload_n 1, 1) := by decide +kernel
theorem dX12_findsParted_72 : decode cX12_findsParted 72 = .ok (.iload 5, 2) := by decide +kernel
theorem dX12_findsParted_74 : decode cX12_findsParted 74 = .ok (.invokevirtual 184, 3) := by decide +kernel
theorem dX12_findsParted_77 : decode cX12_findsParted 77 = .ok (.invokevirtual 157, 3) := by decide +kernel
theorem dX12_findsParted_80 : decode cX12_findsParted 80 = .ok (.if_icmp .eq 10, 3) := by decide +kernel
theorem dX12_findsParted_83 : decode cX12_findsParted 83 = .ok (.iconst 1, 1) := by decide +kernel
theorem dX12_findsParted_84 : decode cX12_findsParted 84 = .ok (.iload 5, 2) := by decide +kernel
theorem dX12_findsParted_86 : decode cX12_findsParted 86 = .ok (.ishl, 1) := by decide +kernel
theorem dX12_findsParted_87 : decode cX12_findsParted 87 = .ok (.goto 4, 3) := by decide +kernel
theorem dX12_findsParted_90 : decode cX12_findsParted 90 = .ok (.iconst 0, 1) := by decide +kernel
theorem dX12_findsParted_91 : decode cX12_findsParted 91 = .ok (.ior, 1) := by decide +kernel
theorem dX12_findsParted_92 : decode cX12_findsParted 92 = .ok (.istore 4, 2) := by decide +kernel
theorem dX12_findsParted_94 : decode cX12_findsParted 94 = .ok (.iinc 5 1, 3) := by decide +kernel
theorem dX12_findsParted_97 : decode cX12_findsParted 97 = .ok (.goto (-67), 3) := by decide +kernel
theorem dX12_findsParted_100 : decode cX12_findsParted 100 = .ok (.aload_n 0, 1) := by decide +kernel
theorem dX12_findsParted_101 : decode cX12_findsParted 101 = .ok (.getfield 49, 3) := by decide +kernel
theorem dX12_findsParted_104 : decode cX12_findsParted 104 = .ok (.bipush 10, 2) := by decide +kernel
theorem dX12_findsParted_106 : decode cX12_findsParted 106 = .ok (.iload_n 2, 1) := by decide +kernel
theorem dX12_findsParted_107 : decode cX12_findsParted 107 = .ok (.imul, 1) := by decide +kernel
theorem dX12_findsParted_108 : decode cX12_findsParted 108 = .ok (.iload_n 3, 1) := by decide +kernel
theorem dX12_findsParted_109 : decode cX12_findsParted 109 = .ok (.iadd, 1) := by decide +kernel
theorem dX12_findsParted_110 : decode cX12_findsParted 110 = .ok (.iload 4, 2) := by decide +kernel
theorem dX12_findsParted_112 : decode cX12_findsParted 112 = .ok (.iastore, 1) := by decide +kernel
theorem dX12_findsParted_113 : decode cX12_findsParted 113 = .ok (.iinc 3 1, 3) := by decide +kernel
theorem dX12_findsParted_116 : decode cX12_findsParted 116 = .ok (.goto (-102), 3) := by decide +kernel
theorem dX12_findsParted_119 : decode cX12_findsParted 119 = .ok (.iinc 2 1, 3) := by decide +kernel
theorem dX12_findsParted_122 : decode cX12_findsParted 122 = .ok (.goto (-120), 3) := by decide +kernel
theorem dX12_findsParted_125 : decode cX12_findsParted 125 = .ok (.return_, 1) := by decide +kernel
theorem dX12_areBoth_0 : decode cX12_areBoth 0 = .ok (.iload_n 1, 1) := by decide +kernel
theorem dX12_areBoth_1 : decode cX12_areBoth 1 = .ok (.iload_n 2, 1) := by decide +kernel
theorem dX12_areBoth_2 : decode cX12_areBoth 2 = .ok (.ishr, 1) := by decide +kernel
theorem dX12_areBoth_3 : decode cX12_areBoth 3 = .ok (.iconst 1, 1) := by decide +kernel
theorem dX12_areBoth_4 : decode cX12_areBoth 4 = .ok (.iand, 1) := by decide +kernel
theorem dX12_areBoth_5 : decode cX12_areBoth 5 = .ok (.iconst 1, 1) := by decide +kernel
theorem dX12_areBoth_6 : decode cX12_areBoth 6 = .ok (.if_icmp .ne 16, 3) := by decide +kernel
theorem dX12_areBoth_9 : decode cX12_areBoth 9 = .ok (.iload_n 1, 1) := by decide +kernel
theorem dX12_areBoth_10 : decode cX12_areBoth 10 = .ok (.iload_n 3, 1) := by decide +kernel
theorem dX12_areBoth_11 : decode cX12_areBoth 11 = .ok (.ishr, 1) := by decide +kernel
theorem dX12_areBoth_12 : decode cX12_areBoth 12 = .ok (.iconst 1, 1) := by decide +kernel
theorem dX12_areBoth_13 : decode cX12_areBoth 13 = .ok (.iand, 1) := by decide +kernel
theorem dX12_areBoth_14 : decode cX12_areBoth 14 = .ok (.iconst 1, 1) := by decide +kernel
theorem dX12_areBoth_15 : decode cX12_areBoth 15 = .ok (.if_icmp .ne 7, 3) := by decide +kernel
theorem dX12_areBoth_18 : decode cX12_areBoth 18 = .ok (.iconst 1, 1) := by decide +kernel
theorem dX12_areBoth_19 : decode cX12_areBoth 19 = .ok (.goto 4, 3) := by decide +kernel
theorem dX12_areBoth_22 : decode cX12_areBoth 22 = .ok (.iconst 0, 1) := by decide +kernel
theorem dX12_areBoth_23 : decode cX12_areBoth 23 = .ok (.ireturn, 1) := by decide +kernel
theorem dX12_areParted_0 : decode cX12_areParted 0 = .ok (.iconst 0, 1) := by decide +kernel
theorem dX12_areParted_1 : decode cX12_areParted 1 = .ok (.istore_n 3, 1) := by decide +kernel
theorem dX12_areParted_2 : decode cX12_areParted 2 = .ok (.iload_n 3, 1) := by decide +kernel
theorem dX12_areParted_3 : decode cX12_areParted 3 = .ok (.aload_n 0, 1) := by decide +kernel
theorem dX12_areParted_4 : decode cX12_areParted 4 = .ok (.getfield 9, 3) := by decide +kernel
theorem dX12_areParted_7 : decode cX12_areParted 7 = .ok (.iconst 0, 1) := by decide +kernel
theorem dX12_areParted_8 : decode cX12_areParted 8 = .ok (.iaload, 1) := by decide +kernel
theorem dX12_areParted_9 : decode cX12_areParted 9 = .ok (.if_icmp .ge 76, 3) := by decide +kernel
theorem dX12_areParted_12 : decode cX12_areParted 12 = .ok (.iload_n 3, 1) := by decide +kernel
theorem dX12_areParted_13 : decode cX12_areParted 13 = .ok (.iconst 1, 1) := by decide +kernel
theorem dX12_areParted_14 : decode cX12_areParted 14 = .ok (.iadd, 1) := by decide +kernel
theorem dX12_areParted_15 : decode cX12_areParted 15 = .ok (.istore 4, 2) := by decide +kernel
theorem dX12_areParted_17 : decode cX12_areParted 17 = .ok (.iload 4, 2) := by decide +kernel
theorem dX12_areParted_19 : decode cX12_areParted 19 = .ok (.aload_n 0, 1) := by decide +kernel
theorem dX12_areParted_20 : decode cX12_areParted 20 = .ok (.getfield 9, 3) := by decide +kernel
theorem dX12_areParted_23 : decode cX12_areParted 23 = .ok (.iconst 0, 1) := by decide +kernel
theorem dX12_areParted_24 : decode cX12_areParted 24 = .ok (.iaload, 1) := by decide +kernel
theorem dX12_areParted_25 : decode cX12_areParted 25 = .ok (.if_icmp .ge 54, 3) := by decide +kernel
theorem dX12_areParted_28 : decode cX12_areParted 28 = .ok (.aload_n 0, 1) := by decide +kernel
theorem dX12_areParted_29 : decode cX12_areParted 29 = .ok (.iload_n 1, 1) := by decide +kernel
theorem dX12_areParted_30 : decode cX12_areParted 30 = .ok (.iload_n 3, 1) := by decide +kernel
theorem dX12_areParted_31 : decode cX12_areParted 31 = .ok (.iload 4, 2) := by decide +kernel
theorem dX12_areParted_33 : decode cX12_areParted 33 = .ok (.invokevirtual 201, 3) := by decide +kernel
theorem dX12_areParted_36 : decode cX12_areParted 36 = .ok (.ifCond .eq 37, 3) := by decide +kernel
theorem dX12_areParted_39 : decode cX12_areParted 39 = .ok (.aload_n 0, 1) := by decide +kernel
theorem dX12_areParted_40 : decode cX12_areParted 40 = .ok (.getfield 49, 3) := by decide +kernel
theorem dX12_areParted_43 : decode cX12_areParted 43 = .ok (.bipush 10, 2) := by decide +kernel
theorem dX12_areParted_45 : decode cX12_areParted 45 = .ok (.iload_n 3, 1) := by decide +kernel
theorem dX12_areParted_46 : decode cX12_areParted 46 = .ok (.imul, 1) := by decide +kernel
theorem dX12_areParted_47 : decode cX12_areParted 47 = .ok (.iload 4, 2) := by decide +kernel
theorem dX12_areParted_49 : decode cX12_areParted 49 = .ok (.iadd, 1) := by decide +kernel
theorem dX12_areParted_50 : decode cX12_areParted 50 = .ok (.iaload, 1) := by decide +kernel
theorem dX12_areParted_51 : decode cX12_areParted 51 = .ok (.ifCond .eq 22, 3) := by decide +kernel
theorem dX12_areParted_54 : decode cX12_areParted 54 = .ok (.aload_n 0, 1) := by decide +kernel
theorem dX12_areParted_55 : decode cX12_areParted 55 = .ok (.getfield 49, 3) := by decide +kernel
theorem dX12_areParted_58 : decode cX12_areParted 58 = .ok (.bipush 10, 2) := by decide +kernel
theorem dX12_areParted_60 : decode cX12_areParted 60 = .ok (.iload_n 3, 1) := by decide +kernel
theorem dX12_areParted_61 : decode cX12_areParted 61 = .ok (.imul, 1) := by decide +kernel
theorem dX12_areParted_62 : decode cX12_areParted 62 = .ok (.iload 4, 2) := by decide +kernel
theorem dX12_areParted_64 : decode cX12_areParted 64 = .ok (.iadd, 1) := by decide +kernel
theorem dX12_areParted_65 : decode cX12_areParted 65 = .ok (.iaload, 1) := by decide +kernel
theorem dX12_areParted_66 : decode cX12_areParted 66 = .ok (.iload_n 2, 1) := by decide +kernel
theorem dX12_areParted_67 : decode cX12_areParted 67 = .ok (.iand, 1) := by decide +kernel
theorem dX12_areParted_68 : decode cX12_areParted 68 = .ok (.ifCond .ne 5, 3) := by decide +kernel
theorem dX12_areParted_71 : decode cX12_areParted 71 = .ok (.iconst 0, 1) := by decide +kernel
theorem dX12_areParted_72 : decode cX12_areParted 72 = .ok (.ireturn, 1) := by decide +kernel
theorem dX12_areParted_73 : decode cX12_areParted 73 = .ok (.iinc 4 1, 3) := by decide +kernel
theorem dX12_areParted_76 : decode cX12_areParted 76 = .ok (.goto (-59), 3) := by decide +kernel
theorem dX12_areParted_79 : decode cX12_areParted 79 = .ok (.iinc 3 1, 3) := by decide +kernel
theorem dX12_areParted_82 : decode cX12_areParted 82 = .ok (.goto (-80), 3) := by decide +kernel
theorem dX12_areParted_85 : decode cX12_areParted 85 = .ok (.iconst 1, 1) := by decide +kernel
theorem dX12_areParted_86 : decode cX12_areParted 86 = .ok (.ireturn, 1) := by decide +kernel
theorem dX12_apart_0 : decode cX12_apart 0 = .ok (.iload_n 1, 1) := by decide +kernel
theorem dX12_apart_1 : decode cX12_apart 1 = .ok (.invokestatic 101, 3) := by decide +kernel
theorem dX12_apart_4 : decode cX12_apart 4 = .ok (.ifCond .eq 21, 3) := by decide +kernel
theorem dX12_apart_7 : decode cX12_apart 7 = .ok (.aload_n 0, 1) := by decide +kernel
theorem dX12_apart_8 : decode cX12_apart 8 = .ok (.iload_n 2, 1) := by decide +kernel
theorem dX12_apart_9 : decode cX12_apart 9 = .ok (.invokevirtual 165, 3) := by decide +kernel
theorem dX12_apart_12 : decode cX12_apart 12 = .ok (.ifCond .eq 13, 3) := by decide +kernel
theorem dX12_apart_15 : decode cX12_apart 15 = .ok (.iload_n 3, 1) := by decide +kernel
theorem dX12_apart_16 : decode cX12_apart 16 = .ok (.i2l, 1) := by decide +kernel
theorem dX12_apart_17 : decode cX12_apart 17 = .ok (.lconst 0, 1) := by decide +kernel
theorem dX12_apart_18 : decode cX12_apart 18 = .ok (.lconst 1, 1) := by decide +kernel
theorem dX12_apart_19 : decode cX12_apart 19 = .ok (.invokestatic 62, 3) := by decide +kernel
theorem dX12_apart_22 : decode cX12_apart 22 = .ok (.ifCond .ne 5, 3) := by decide +kernel
theorem dX12_apart_25 : decode cX12_apart 25 = .ok (.iconst (-1), 1) := by decide +kernel
theorem dX12_apart_26 : decode cX12_apart 26 = .ok (.ireturn, 1) := by decide +kernel
theorem dX12_apart_27 : decode cX12_apart 27 = .ok (.aload_n 0, 1) := by decide +kernel
theorem dX12_apart_28 : decode cX12_apart 28 = .ok (.iload_n 1, 1) := by decide +kernel
theorem dX12_apart_29 : decode cX12_apart 29 = .ok (.invokevirtual 175, 3) := by decide +kernel
theorem dX12_apart_32 : decode cX12_apart 32 = .ok (.istore 4, 2) := by decide +kernel
theorem dX12_apart_34 : decode cX12_apart 34 = .ok (.iload 4, 2) := by decide +kernel
theorem dX12_apart_36 : decode cX12_apart 36 = .ok (.ifCond .ne 17, 3) := by decide +kernel
theorem dX12_apart_39 : decode cX12_apart 39 = .ok (.aload_n 0, 1) := by decide +kernel
theorem dX12_apart_40 : decode cX12_apart 40 = .ok (.iload_n 1, 1) := by decide +kernel
theorem dX12_apart_41 : decode cX12_apart 41 = .ok (.invokevirtual 171, 3) := by decide +kernel
theorem dX12_apart_44 : decode cX12_apart 44 = .ok (.bipush 10, 2) := by decide +kernel
theorem dX12_apart_46 : decode cX12_apart 46 = .ok (.if_icmp .le 7, 3) := by decide +kernel
theorem dX12_apart_49 : decode cX12_apart 49 = .ok (.bipush (-13), 2) := by decide +kernel
theorem dX12_apart_51 : decode cX12_apart 51 = .ok (.istore 4, 2) := by decide +kernel
theorem dX12_apart_53 : decode cX12_apart 53 = .ok (.iload 4, 2) := by decide +kernel
theorem dX12_apart_55 : decode cX12_apart 55 = .ok (.ifCond .eq 6, 3) := by decide +kernel
theorem dX12_apart_58 : decode cX12_apart 58 = .ok (.iload 4, 2) := by decide +kernel
theorem dX12_apart_60 : decode cX12_apart 60 = .ok (.ireturn, 1) := by decide +kernel
theorem dX12_apart_61 : decode cX12_apart 61 = .ok (.aload_n 0, 1) := by decide +kernel
theorem dX12_apart_62 : decode cX12_apart 62 = .ok (.iload_n 1, 1) := by decide +kernel
theorem dX12_apart_63 : decode cX12_apart 63 = .ok (.invokevirtual 205, 3) := by decide +kernel
theorem dX12_apart_66 : decode cX12_apart 66 = .ok (.bipush (-4), 2) := by decide +kernel
theorem dX12_apart_68 : decode cX12_apart 68 = .ok (.istore 5, 2) := by decide +kernel
theorem dX12_apart_70 : decode cX12_apart 70 = .ok (.iconst 0, 1) := by decide +kernel
theorem dX12_apart_71 : decode cX12_apart 71 = .ok (.istore 6, 2) := by decide +kernel
theorem dX12_apart_73 : decode cX12_apart 73 = .ok (.iload 6, 2) := by decide +kernel
theorem dX12_apart_75 : decode cX12_apart 75 = .ok (.iconst 1, 1) := by decide +kernel
theorem dX12_apart_76 : decode cX12_apart 76 = .ok (.aload_n 0, 1) := by decide +kernel
theorem dX12_apart_77 : decode cX12_apart 77 = .ok (.iload_n 1, 1) := by decide +kernel
theorem dX12_apart_78 : decode cX12_apart 78 = .ok (.invokevirtual 171, 3) := by decide +kernel
theorem dX12_apart_81 : decode cX12_apart 81 = .ok (.ishl, 1) := by decide +kernel
theorem dX12_apart_82 : decode cX12_apart 82 = .ok (.if_icmp .ge 41, 3) := by decide +kernel
theorem dX12_apart_85 : decode cX12_apart 85 = .ok (.iload 5, 2) := by decide +kernel
theorem dX12_apart_87 : decode cX12_apart 87 = .ok (.ifCond .lt 16, 3) := by decide +kernel
theorem dX12_apart_90 : decode cX12_apart 90 = .ok (.iload 6, 2) := by decide +kernel
theorem dX12_apart_92 : decode cX12_apart 92 = .ok (.invokestatic 209, 3) := by decide +kernel
theorem dX12_apart_95 : decode cX12_apart 95 = .ok (.iload 5, 2) := by decide +kernel
theorem dX12_apart_97 : decode cX12_apart 97 = .ok (.invokestatic 209, 3) := by decide +kernel
theorem dX12_apart_100 : decode cX12_apart 100 = .ok (.if_icmp .ge 17, 3) := by decide +kernel
theorem dX12_apart_103 : decode cX12_apart 103 = .ok (.aload_n 0, 1) := by decide +kernel
theorem dX12_apart_104 : decode cX12_apart 104 = .ok (.iload_n 2, 1) := by decide +kernel
theorem dX12_apart_105 : decode cX12_apart 105 = .ok (.iload 6, 2) := by decide +kernel
theorem dX12_apart_107 : decode cX12_apart 107 = .ok (.invokevirtual 212, 3) := by decide +kernel
theorem dX12_apart_110 : decode cX12_apart 110 = .ok (.ifCond .eq 7, 3) := by decide +kernel
theorem dX12_apart_113 : decode cX12_apart 113 = .ok (.iload 6, 2) := by decide +kernel
theorem dX12_apart_115 : decode cX12_apart 115 = .ok (.istore 5, 2) := by decide +kernel
theorem dX12_apart_117 : decode cX12_apart 117 = .ok (.iinc 6 1, 3) := by decide +kernel
theorem dX12_apart_120 : decode cX12_apart 120 = .ok (.goto (-47), 3) := by decide +kernel
theorem dX12_apart_123 : decode cX12_apart 123 = .ok (.iload_n 3, 1) := by decide +kernel
theorem dX12_apart_124 : decode cX12_apart 124 = .ok (.ifCond .ne 11, 3) := by decide +kernel
theorem dX12_apart_127 : decode cX12_apart 127 = .ok (.iload 5, 2) := by decide +kernel
theorem dX12_apart_129 : decode cX12_apart 129 = .ok (.invokestatic 209, 3) := by decide +kernel
theorem dX12_apart_132 : decode cX12_apart 132 = .ok (.goto 5, 3) := by decide +kernel
theorem dX12_apart_135 : decode cX12_apart 135 = .ok (.iload 5, 2) := by decide +kernel
theorem dX12_apart_137 : decode cX12_apart 137 = .ok (.ireturn, 1) := by decide +kernel
theorem dX12_never_0 : decode cX12_never 0 = .ok (.iload_n 1, 1) := by decide +kernel
theorem dX12_never_1 : decode cX12_never 1 = .ok (.invokestatic 101, 3) := by decide +kernel
theorem dX12_never_4 : decode cX12_never 4 = .ok (.ifCond .eq 11, 3) := by decide +kernel
theorem dX12_never_7 : decode cX12_never 7 = .ok (.aload_n 0, 1) := by decide +kernel
theorem dX12_never_8 : decode cX12_never 8 = .ok (.iload_n 2, 1) := by decide +kernel
theorem dX12_never_9 : decode cX12_never 9 = .ok (.invokevirtual 165, 3) := by decide +kernel
theorem dX12_never_12 : decode cX12_never 12 = .ok (.ifCond .ne 5, 3) := by decide +kernel
theorem dX12_never_15 : decode cX12_never 15 = .ok (.iconst (-1), 1) := by decide +kernel
theorem dX12_never_16 : decode cX12_never 16 = .ok (.ireturn, 1) := by decide +kernel
theorem dX12_never_17 : decode cX12_never 17 = .ok (.aload_n 0, 1) := by decide +kernel
theorem dX12_never_18 : decode cX12_never 18 = .ok (.iload_n 1, 1) := by decide +kernel
theorem dX12_never_19 : decode cX12_never 19 = .ok (.invokevirtual 175, 3) := by decide +kernel
theorem dX12_never_22 : decode cX12_never 22 = .ok (.istore_n 3, 1) := by decide +kernel
theorem dX12_never_23 : decode cX12_never 23 = .ok (.iload_n 3, 1) := by decide +kernel
theorem dX12_never_24 : decode cX12_never 24 = .ok (.ifCond .eq 5, 3) := by decide +kernel
theorem dX12_never_27 : decode cX12_never 27 = .ok (.iload_n 3, 1) := by decide +kernel
theorem dX12_never_28 : decode cX12_never 28 = .ok (.ireturn, 1) := by decide +kernel
theorem dX12_never_29 : decode cX12_never 29 = .ok (.aload_n 0, 1) := by decide +kernel
theorem dX12_never_30 : decode cX12_never 30 = .ok (.iload_n 1, 1) := by decide +kernel
theorem dX12_never_31 : decode cX12_never 31 = .ok (.invokevirtual 205, 3) := by decide +kernel
theorem dX12_never_34 : decode cX12_never 34 = .ok (.iconst 0, 1) := by decide +kernel
theorem dX12_never_35 : decode cX12_never 35 = .ok (.istore 4, 2) := by decide +kernel
theorem dX12_never_37 : decode cX12_never 37 = .ok (.iconst 0, 1) := by decide +kernel
theorem dX12_never_38 : decode cX12_never 38 = .ok (.istore 5, 2) := by decide +kernel
theorem dX12_never_40 : decode cX12_never 40 = .ok (.iload 5, 2) := by decide +kernel
theorem dX12_never_42 : decode cX12_never 42 = .ok (.aload_n 0, 1) := by decide +kernel
theorem dX12_never_43 : decode cX12_never 43 = .ok (.getfield 9, 3) := by decide +kernel
theorem dX12_never_46 : decode cX12_never 46 = .ok (.iconst 0, 1) := by decide +kernel
theorem dX12_never_47 : decode cX12_never 47 = .ok (.iaload, 1) := by decide +kernel
theorem dX12_never_48 : decode cX12_never 48 = .ok (.if_icmp .ge 70, 3) := by decide +kernel
theorem dX12_never_51 : decode cX12_never 51 = .ok (.iload 5, 2) := by decide +kernel
theorem dX12_never_53 : decode cX12_never 53 = .ok (.iconst 1, 1) := by decide +kernel
theorem dX12_never_54 : decode cX12_never 54 = .ok (.iadd, 1) := by decide +kernel
theorem dX12_never_55 : decode cX12_never 55 = .ok (.istore 6, 2) := by decide +kernel
theorem dX12_never_57 : decode cX12_never 57 = .ok (.iload 6, 2) := by decide +kernel
theorem dX12_never_59 : decode cX12_never 59 = .ok (.aload_n 0, 1) := by decide +kernel
theorem dX12_never_60 : decode cX12_never 60 = .ok (.getfield 9, 3) := by decide +kernel
theorem dX12_never_63 : decode cX12_never 63 = .ok (.iconst 0, 1) := by decide +kernel
theorem dX12_never_64 : decode cX12_never 64 = .ok (.iaload, 1) := by decide +kernel
theorem dX12_never_65 : decode cX12_never 65 = .ok (.if_icmp .ge 47, 3) := by decide +kernel
theorem dX12_never_68 : decode cX12_never 68 = .ok (.iload 4, 2) := by decide +kernel
theorem dX12_never_70 : decode cX12_never 70 = .ok (.aload_n 0, 1) := by decide +kernel
theorem dX12_never_71 : decode cX12_never 71 = .ok (.iload_n 2, 1) := by decide +kernel
theorem dX12_never_72 : decode cX12_never 72 = .ok (.iload 5, 2) := by decide +kernel
theorem dX12_never_74 : decode cX12_never 74 = .ok (.iload 6, 2) := by decide +kernel
theorem dX12_never_76 : decode cX12_never 76 = .ok (.invokevirtual 201, 3) := by decide +kernel
theorem dX12_never_79 : decode cX12_never 79 = .ok (.ifCond .eq 23, 3) := by decide +kernel
theorem dX12_never_82 : decode cX12_never 82 = .ok (.aload_n 0, 1) := by decide +kernel
theorem dX12_never_83 : decode cX12_never 83 = .ok (.getfield 49, 3) := by decide +kernel
theorem dX12_never_86 : decode cX12_never 86 = .ok (.bipush 10, 2) := by decide +kernel
theorem dX12_never_88 : decode cX12_never 88 = .ok (.iload 5, 2) := by decide +kernel
theorem dX12_never_90 : decode cX12_never 90 = .ok (.imul, 1) := by decide +kernel
theorem dX12_never_91 : decode cX12_never 91 = .ok (.iload 6, 2) := by decide +kernel
theorem dX12_never_93 : decode cX12_never 93 = .ok (.iadd, 1) := by decide +kernel
theorem dX12_never_94 : decode cX12_never 94 = .ok (.iaload, 1) := by decide +kernel
theorem dX12_never_95 : decode cX12_never 95 = .ok (.ifCond .ne 7, 3) := by decide +kernel
theorem dX12_never_98 : decode cX12_never 98 = .ok (.iconst 1, 1) := by decide +kernel
theorem dX12_never_99 : decode cX12_never 99 = .ok (.goto 4, 3) := by decide +kernel
theorem dX12_never_102 : decode cX12_never 102 = .ok (.iconst 0, 1) := by decide +kernel
theorem dX12_never_103 : decode cX12_never 103 = .ok (.iadd, 1) := by decide +kernel
theorem dX12_never_104 : decode cX12_never 104 = .ok (.istore 4, 2) := by decide +kernel
theorem dX12_never_106 : decode cX12_never 106 = .ok (.iinc 6 1, 3) := by decide +kernel
theorem dX12_never_109 : decode cX12_never 109 = .ok (.goto (-52), 3) := by decide +kernel
theorem dX12_never_112 : decode cX12_never 112 = .ok (.iinc 5 1, 3) := by decide +kernel
theorem dX12_never_115 : decode cX12_never 115 = .ok (.goto (-75), 3) := by decide +kernel
theorem dX12_never_118 : decode cX12_never 118 = .ok (.iload 4, 2) := by decide +kernel
theorem dX12_never_120 : decode cX12_never 120 = .ok (.ireturn, 1) := by decide +kernel
theorem dX12_marksOf_0 : decode cX12_marksOf 0 = .ok (.iconst 0, 1) := by decide +kernel
theorem dX12_marksOf_1 : decode cX12_marksOf 1 = .ok (.istore 4, 2) := by decide +kernel
theorem dX12_marksOf_3 : decode cX12_marksOf 3 = .ok (.iconst 0, 1) := by decide +kernel
theorem dX12_marksOf_4 : decode cX12_marksOf 4 = .ok (.istore 5, 2) := by decide +kernel
theorem dX12_marksOf_6 : decode cX12_marksOf 6 = .ok (.iload 5, 2) := by decide +kernel
theorem dX12_marksOf_8 : decode cX12_marksOf 8 = .ok (.aload_n 0, 1) := by decide +kernel
theorem dX12_marksOf_9 : decode cX12_marksOf 9 = .ok (.iload_n 2, 1) := by decide +kernel
theorem dX12_marksOf_10 : decode cX12_marksOf 10 = .ok (.invokevirtual 171, 3) := by decide +kernel
theorem dX12_marksOf_13 : decode cX12_marksOf 13 = .ok (.if_icmp .ge 79, 3) := by decide +kernel
theorem dX12_marksOf_16 : decode cX12_marksOf 16 = .ok (.aload_n 0, 1) := by decide +kernel
theorem dX12_marksOf_17 : decode cX12_marksOf 17 = .ok (.iload_n 1, 1) := by decide +kernel
theorem dX12_marksOf_18 : decode cX12_marksOf 18 = .ok (.aload_n 0, 1) := by decide +kernel
theorem dX12_marksOf_19 : decode cX12_marksOf 19 = .ok (.iload_n 2, 1) := by decide +kernel
theorem dX12_marksOf_20 : decode cX12_marksOf 20 = .ok (.iload 5, 2) := by decide +kernel
theorem dX12_marksOf_22 : decode cX12_marksOf 22 = .ok (.invokevirtual 181, 3) := by decide +kernel
theorem dX12_marksOf_25 : decode cX12_marksOf 25 = .ok (.aload_n 0, 1) := by decide +kernel
theorem dX12_marksOf_26 : decode cX12_marksOf 26 = .ok (.iload_n 2, 1) := by decide +kernel
theorem dX12_marksOf_27 : decode cX12_marksOf 27 = .ok (.iload 5, 2) := by decide +kernel
theorem dX12_marksOf_29 : decode cX12_marksOf 29 = .ok (.invokevirtual 184, 3) := by decide +kernel
theorem dX12_marksOf_32 : decode cX12_marksOf 32 = .ok (.invokevirtual 157, 3) := by decide +kernel
theorem dX12_marksOf_35 : decode cX12_marksOf 35 = .ok (.aload_n 0, 1) := by decide +kernel
theorem dX12_marksOf_36 : decode cX12_marksOf 36 = .ok (.iload_n 2, 1) := by decide +kernel
theorem dX12_marksOf_37 : decode cX12_marksOf 37 = .ok (.iload 5, 2) := by decide +kernel
theorem dX12_marksOf_39 : decode cX12_marksOf 39 = .ok (.invokevirtual 181, 3) := by decide +kernel
theorem dX12_marksOf_42 : decode cX12_marksOf 42 = .ok (.aload_n 0, 1) := by decide +kernel
theorem dX12_marksOf_43 : decode cX12_marksOf 43 = .ok (.iload_n 2, 1) := by decide +kernel
theorem dX12_marksOf_44 : decode cX12_marksOf 44 = .ok (.iload 5, 2) := by decide +kernel
theorem dX12_marksOf_46 : decode cX12_marksOf 46 = .ok (.invokevirtual 184, 3) := by decide +kernel
theorem dX12_marksOf_49 : decode cX12_marksOf 49 = .ok (.isub, 1) := by decide +kernel
theorem dX12_marksOf_50 : decode cX12_marksOf 50 = .ok (.if_icmp .ne 7, 3) := by decide +kernel
theorem dX12_marksOf_53 : decode cX12_marksOf 53 = .ok (.iconst 1, 1) := by decide +kernel
theorem dX12_marksOf_54 : decode cX12_marksOf 54 = .ok (.goto 4, 3) := by decide +kernel
theorem dX12_marksOf_57 : decode cX12_marksOf 57 = .ok (.iconst 0, 1) := by decide +kernel
theorem dX12_marksOf_58 : decode cX12_marksOf 58 = .ok (.istore 6, 2) := by decide +kernel
theorem dX12_marksOf_60 : decode cX12_marksOf 60 = .ok (.iload 4, 2) := by decide +kernel
theorem dX12_marksOf_62 : decode cX12_marksOf 62 = .ok (.iload 6, 2) := by decide +kernel
theorem dX12_marksOf_64 : decode cX12_marksOf 64 = .ok (.ifCond .eq 18, 3) := by decide +kernel
theorem dX12_marksOf_67 : decode cX12_marksOf 67 = .ok (.iload_n 3, 1) := by decide +kernel
theorem dX12_marksOf_68 : decode cX12_marksOf 68 = .ok (.ifCond .eq 10, 3) := by decide +kernel
theorem dX12_marksOf_71 : decode cX12_marksOf 71 = .ok (.aload_n 0, 1) := by decide +kernel
theorem dX12_marksOf_72 : decode cX12_marksOf 72 = .ok (.getfield 150, 3) := by decide +kernel
theorem dX12_marksOf_75 : decode cX12_marksOf 75 = .ok (.ifCond .eq 7, 3) := by decide +kernel
theorem dX12_marksOf_78 : decode cX12_marksOf 78 = .ok (.iconst 1, 1) := by decide +kernel
theorem dX12_marksOf_79 : decode cX12_marksOf 79 = .ok (.goto 4, 3) := by decide +kernel
theorem dX12_marksOf_82 : decode cX12_marksOf 82 = .ok (.iconst 0, 1) := by decide +kernel
theorem dX12_marksOf_83 : decode cX12_marksOf 83 = .ok (.iadd, 1) := by decide +kernel
theorem dX12_marksOf_84 : decode cX12_marksOf 84 = .ok (.istore 4, 2) := by decide +kernel
theorem dX12_marksOf_86 : decode cX12_marksOf 86 = .ok (.iinc 5 1, 3) := by decide +kernel
theorem dX12_marksOf_89 : decode cX12_marksOf 89 = .ok (.goto (-83), 3) := by decide +kernel
theorem dX12_marksOf_92 : decode cX12_marksOf 92 = .ok (.iload 4, 2) := by decide +kernel
theorem dX12_marksOf_94 : decode cX12_marksOf 94 = .ok (.ireturn, 1) := by decide +kernel
theorem dX12_luck_0 : decode cX12_luck 0 = .ok (.aload_n 0, 1) := by decide +kernel
theorem dX12_luck_1 : decode cX12_luck 1 = .ok (.iload_n 1, 1) := by decide +kernel
theorem dX12_luck_2 : decode cX12_luck 2 = .ok (.invokevirtual 114, 3) := by decide +kernel
theorem dX12_luck_5 : decode cX12_luck 5 = .ok (.ifCond .eq 20, 3) := by decide +kernel
theorem dX12_luck_8 : decode cX12_luck 8 = .ok (.iload_n 2, 1) := by decide +kernel
theorem dX12_luck_9 : decode cX12_luck 9 = .ok (.invokestatic 101, 3) := by decide +kernel
theorem dX12_luck_12 : decode cX12_luck 12 = .ok (.ifCond .eq 13, 3) := by decide +kernel
theorem dX12_luck_15 : decode cX12_luck 15 = .ok (.iload_n 3, 1) := by decide +kernel
theorem dX12_luck_16 : decode cX12_luck 16 = .ok (.i2l, 1) := by decide +kernel
theorem dX12_luck_17 : decode cX12_luck 17 = .ok (.lconst 0, 1) := by decide +kernel
theorem dX12_luck_18 : decode cX12_luck 18 = .ok (.lconst 1, 1) := by decide +kernel
theorem dX12_luck_19 : decode cX12_luck 19 = .ok (.invokestatic 62, 3) := by decide +kernel
theorem dX12_luck_22 : decode cX12_luck 22 = .ok (.ifCond .ne 5, 3) := by decide +kernel
theorem dX12_luck_25 : decode cX12_luck 25 = .ok (.iconst (-1), 1) := by decide +kernel
theorem dX12_luck_26 : decode cX12_luck 26 = .ok (.ireturn, 1) := by decide +kernel
theorem dX12_luck_27 : decode cX12_luck 27 = .ok (.aload_n 0, 1) := by decide +kernel
theorem dX12_luck_28 : decode cX12_luck 28 = .ok (.iload_n 2, 1) := by decide +kernel
theorem dX12_luck_29 : decode cX12_luck 29 = .ok (.invokevirtual 175, 3) := by decide +kernel
theorem dX12_luck_32 : decode cX12_luck 32 = .ok (.istore 4, 2) := by decide +kernel
theorem dX12_luck_34 : decode cX12_luck 34 = .ok (.iload 4, 2) := by decide +kernel
theorem dX12_luck_36 : decode cX12_luck 36 = .ok (.ifCond .eq 8, 3) := by decide +kernel
theorem dX12_luck_39 : decode cX12_luck 39 = .ok (.iload 4, 2) := by decide +kernel
theorem dX12_luck_41 : decode cX12_luck 41 = .ok (.goto 18, 3) := by decide +kernel
theorem dX12_luck_44 : decode cX12_luck 44 = .ok (.aload_n 0, 1) := by decide +kernel
theorem dX12_luck_45 : decode cX12_luck 45 = .ok (.iload_n 1, 1) := by decide +kernel
theorem dX12_luck_46 : decode cX12_luck 46 = .ok (.iload_n 2, 1) := by decide +kernel
theorem dX12_luck_47 : decode cX12_luck 47 = .ok (.iload_n 3, 1) := by decide +kernel
theorem dX12_luck_48 : decode cX12_luck 48 = .ok (.ifCond .ne 7, 3) := by decide +kernel
theorem dX12_luck_51 : decode cX12_luck 51 = .ok (.iconst 1, 1) := by decide +kernel
theorem dX12_luck_52 : decode cX12_luck 52 = .ok (.goto 4, 3) := by decide +kernel
theorem dX12_luck_55 : decode cX12_luck 55 = .ok (.iconst 0, 1) := by decide +kernel
theorem dX12_luck_56 : decode cX12_luck 56 = .ok (.invokevirtual 215, 3) := by decide +kernel
theorem dX12_luck_59 : decode cX12_luck 59 = .ok (.ireturn, 1) := by decide +kernel
theorem dX12_clash_0 : decode cX12_clash 0 = .ok (.aload_n 0, 1) := by decide +kernel
theorem dX12_clash_1 : decode cX12_clash 1 = .ok (.iload_n 1, 1) := by decide +kernel
theorem dX12_clash_2 : decode cX12_clash 2 = .ok (.invokevirtual 114, 3) := by decide +kernel
theorem dX12_clash_5 : decode cX12_clash 5 = .ok (.ifCond .ne 5, 3) := by decide +kernel
theorem dX12_clash_8 : decode cX12_clash 8 = .ok (.iconst (-1), 1) := by decide +kernel
theorem dX12_clash_9 : decode cX12_clash 9 = .ok (.ireturn, 1) := by decide +kernel
theorem dX12_clash_10 : decode cX12_clash 10 = .ok (.iconst 0, 1) := by decide +kernel
theorem dX12_clash_11 : decode cX12_clash 11 = .ok (.istore_n 2, 1) := by decide +kernel
theorem dX12_clash_12 : decode cX12_clash 12 = .ok (.iload_n 2, 1) := by decide +kernel
theorem dX12_clash_13 : decode cX12_clash 13 = .ok (.bipush 100, 2) := by decide +kernel
theorem dX12_clash_15 : decode cX12_clash 15 = .ok (.if_icmp .ge 40, 3) := by decide +kernel
theorem dX12_clash_18 : decode cX12_clash 18 = .ok (.iconst 0, 1) := by decide +kernel
theorem dX12_clash_19 : decode cX12_clash 19 = .ok (.istore_n 3, 1) := by decide +kernel
theorem dX12_clash_20 : decode cX12_clash 20 = .ok (.iload_n 3, 1) := by decide +kernel
theorem dX12_clash_21 : decode cX12_clash 21 = .ok (.iload_n 2, 1) := by decide +kernel
theorem dX12_clash_22 : decode cX12_clash 22 = .ok (.if_icmp .gt 27, 3) := by decide +kernel
theorem dX12_clash_25 : decode cX12_clash 25 = .ok (.aload_n 0, 1) := by decide +kernel
theorem dX12_clash_26 : decode cX12_clash 26 = .ok (.iload_n 1, 1) := by decide +kernel
theorem dX12_clash_27 : decode cX12_clash 27 = .ok (.iload_n 2, 1) := by decide +kernel
theorem dX12_clash_28 : decode cX12_clash 28 = .ok (.iload_n 3, 1) := by decide +kernel
theorem dX12_clash_29 : decode cX12_clash 29 = .ok (.invokevirtual 157, 3) := by decide +kernel
theorem dX12_clash_32 : decode cX12_clash 32 = .ok (.iload_n 2, 1) := by decide +kernel
theorem dX12_clash_33 : decode cX12_clash 33 = .ok (.if_icmp .le 10, 3) := by decide +kernel
theorem dX12_clash_36 : decode cX12_clash 36 = .ok (.bipush 100, 2) := by decide +kernel
theorem dX12_clash_38 : decode cX12_clash 38 = .ok (.iload_n 2, 1) := by decide +kernel
theorem dX12_clash_39 : decode cX12_clash 39 = .ok (.imul, 1) := by decide +kernel
theorem dX12_clash_40 : decode cX12_clash 40 = .ok (.iload_n 3, 1) := by decide +kernel
theorem dX12_clash_41 : decode cX12_clash 41 = .ok (.iadd, 1) := by decide +kernel
theorem dX12_clash_42 : decode cX12_clash 42 = .ok (.ireturn, 1) := by decide +kernel
theorem dX12_clash_43 : decode cX12_clash 43 = .ok (.iinc 3 1, 3) := by decide +kernel
theorem dX12_clash_46 : decode cX12_clash 46 = .ok (.goto (-26), 3) := by decide +kernel
theorem dX12_clash_49 : decode cX12_clash 49 = .ok (.iinc 2 1, 3) := by decide +kernel
theorem dX12_clash_52 : decode cX12_clash 52 = .ok (.goto (-40), 3) := by decide +kernel
theorem dX12_clash_55 : decode cX12_clash 55 = .ok (.bipush (-4), 2) := by decide +kernel
theorem dX12_clash_57 : decode cX12_clash 57 = .ok (.ireturn, 1) := by decide +kernel
theorem dX12_comes_0 : decode cX12_comes 0 = .ok (.aload_n 0, 1) := by decide +kernel
theorem dX12_comes_1 : decode cX12_comes 1 = .ok (.iload_n 1, 1) := by decide +kernel
theorem dX12_comes_2 : decode cX12_comes 2 = .ok (.invokevirtual 114, 3) := by decide +kernel
theorem dX12_comes_5 : decode cX12_comes 5 = .ok (.ifCond .eq 15, 3) := by decide +kernel
theorem dX12_comes_8 : decode cX12_comes 8 = .ok (.iload_n 2, 1) := by decide +kernel
theorem dX12_comes_9 : decode cX12_comes 9 = .ok (.i2l, 1) := by decide +kernel
theorem dX12_comes_10 : decode cX12_comes 10 = .ok (.lconst 1, 1) := by decide +kernel
theorem dX12_comes_11 : decode cX12_comes 11 = .ok (.ldc2_w 219, 3) := by decide +kernel
theorem dX12_comes_14 : decode cX12_comes 14 = .ok (.invokestatic 62, 3) := by decide +kernel
theorem dX12_comes_17 : decode cX12_comes 17 = .ok (.ifCond .ne 5, 3) := by decide +kernel
theorem dX12_comes_20 : decode cX12_comes 20 = .ok (.iconst (-1), 1) := by decide +kernel
theorem dX12_comes_21 : decode cX12_comes 21 = .ok (.ireturn, 1) := by decide +kernel
theorem dX12_comes_22 : decode cX12_comes 22 = .ok (.iconst 0, 1) := by decide +kernel
theorem dX12_comes_23 : decode cX12_comes 23 = .ok (.istore_n 3, 1) := by decide +kernel
theorem dX12_comes_24 : decode cX12_comes 24 = .ok (.iconst 0, 1) := by decide +kernel
theorem dX12_comes_25 : decode cX12_comes 25 = .ok (.istore 4, 2) := by decide +kernel
theorem dX12_comes_27 : decode cX12_comes 27 = .ok (.iload 4, 2) := by decide +kernel
theorem dX12_comes_29 : decode cX12_comes 29 = .ok (.iload_n 2, 1) := by decide +kernel
theorem dX12_comes_30 : decode cX12_comes 30 = .ok (.if_icmp .ge 50, 3) := by decide +kernel
theorem dX12_comes_33 : decode cX12_comes 33 = .ok (.iconst 0, 1) := by decide +kernel
theorem dX12_comes_34 : decode cX12_comes 34 = .ok (.istore 5, 2) := by decide +kernel
theorem dX12_comes_36 : decode cX12_comes 36 = .ok (.iload 5, 2) := by decide +kernel
theorem dX12_comes_38 : decode cX12_comes 38 = .ok (.iload 4, 2) := by decide +kernel
theorem dX12_comes_40 : decode cX12_comes 40 = .ok (.if_icmp .gt 34, 3) := by decide +kernel
theorem dX12_comes_43 : decode cX12_comes 43 = .ok (.iload_n 3, 1) := by decide +kernel
theorem dX12_comes_44 : decode cX12_comes 44 = .ok (.aload_n 0, 1) := by decide +kernel
theorem dX12_comes_45 : decode cX12_comes 45 = .ok (.iload_n 1, 1) := by decide +kernel
theorem dX12_comes_46 : decode cX12_comes 46 = .ok (.iload 4, 2) := by decide +kernel
theorem dX12_comes_48 : decode cX12_comes 48 = .ok (.iload 5, 2) := by decide +kernel
theorem dX12_comes_50 : decode cX12_comes 50 = .ok (.invokevirtual 157, 3) := by decide +kernel
theorem dX12_comes_53 : decode cX12_comes 53 = .ok (.iload 4, 2) := by decide +kernel
theorem dX12_comes_55 : decode cX12_comes 55 = .ok (.iload 5, 2) := by decide +kernel
theorem dX12_comes_57 : decode cX12_comes 57 = .ok (.isub, 1) := by decide +kernel
theorem dX12_comes_58 : decode cX12_comes 58 = .ok (.if_icmp .eq 7, 3) := by decide +kernel
theorem dX12_comes_61 : decode cX12_comes 61 = .ok (.iconst 1, 1) := by decide +kernel
theorem dX12_comes_62 : decode cX12_comes 62 = .ok (.goto 4, 3) := by decide +kernel
theorem dX12_comes_65 : decode cX12_comes 65 = .ok (.iconst 0, 1) := by decide +kernel
theorem dX12_comes_66 : decode cX12_comes 66 = .ok (.iadd, 1) := by decide +kernel
theorem dX12_comes_67 : decode cX12_comes 67 = .ok (.istore_n 3, 1) := by decide +kernel
theorem dX12_comes_68 : decode cX12_comes 68 = .ok (.iinc 5 1, 3) := by decide +kernel
theorem dX12_comes_71 : decode cX12_comes 71 = .ok (.goto (-35), 3) := by decide +kernel
theorem dX12_comes_74 : decode cX12_comes 74 = .ok (.iinc 4 1, 3) := by decide +kernel
theorem dX12_comes_77 : decode cX12_comes 77 = .ok (.goto (-50), 3) := by decide +kernel
theorem dX12_comes_80 : decode cX12_comes 80 = .ok (.iload_n 3, 1) := by decide +kernel
theorem dX12_comes_81 : decode cX12_comes 81 = .ok (.ireturn, 1) := by decide +kernel
theorem dX12_drawn_0 : decode cX12_drawn 0 = .ok (.aload_n 0, 1) := by decide +kernel
theorem dX12_drawn_1 : decode cX12_drawn 1 = .ok (.aload_n 0, 1) := by decide +kernel
theorem dX12_drawn_2 : decode cX12_drawn 2 = .ok (.getfield 221, 3) := by decide +kernel
theorem dX12_drawn_5 : decode cX12_drawn 5 = .ok (.ldc 224, 2) := by decide +kernel
theorem dX12_drawn_7 : decode cX12_drawn 7 = .ok (.imul, 1) := by decide +kernel
theorem dX12_drawn_8 : decode cX12_drawn 8 = .ok (.sipush 12345, 3) := by decide +kernel
theorem dX12_drawn_11 : decode cX12_drawn 11 = .ok (.iadd, 1) := by decide +kernel
theorem dX12_drawn_12 : decode cX12_drawn 12 = .ok (.putfield 221, 3) := by decide +kernel
theorem dX12_drawn_15 : decode cX12_drawn 15 = .ok (.aload_n 0, 1) := by decide +kernel
theorem dX12_drawn_16 : decode cX12_drawn 16 = .ok (.getfield 221, 3) := by decide +kernel
theorem dX12_drawn_19 : decode cX12_drawn 19 = .ok (.ldc 225, 2) := by decide +kernel
theorem dX12_drawn_21 : decode cX12_drawn 21 = .ok (.iand, 1) := by decide +kernel
theorem dX12_drawn_22 : decode cX12_drawn 22 = .ok (.ldc 226, 2) := by decide +kernel
theorem dX12_drawn_24 : decode cX12_drawn 24 = .ok (.idiv, 1) := by decide +kernel
theorem dX12_drawn_25 : decode cX12_drawn 25 = .ok (.iload_n 1, 1) := by decide +kernel
theorem dX12_drawn_26 : decode cX12_drawn 26 = .ok (.irem, 1) := by decide +kernel
theorem dX12_drawn_27 : decode cX12_drawn 27 = .ok (.ireturn, 1) := by decide +kernel
theorem dX12_slipped_0 : decode cX12_slipped 0 = .ok (.aload_n 0, 1) := by decide +kernel
theorem dX12_slipped_1 : decode cX12_slipped 1 = .ok (.iconst 4, 1) := by decide +kernel
theorem dX12_slipped_2 : decode cX12_slipped 2 = .ok (.invokevirtual 227, 3) := by decide +kernel
theorem dX12_slipped_5 : decode cX12_slipped 5 = .ok (.istore_n 2, 1) := by decide +kernel
theorem dX12_slipped_6 : decode cX12_slipped 6 = .ok (.iconst 1, 1) := by decide +kernel
theorem dX12_slipped_7 : decode cX12_slipped 7 = .ok (.istore_n 3, 1) := by decide +kernel
theorem dX12_slipped_8 : decode cX12_slipped 8 = .ok (.iconst 0, 1) := by decide +kernel
theorem dX12_slipped_9 : decode cX12_slipped 9 = .ok (.istore 4, 2) := by decide +kernel
theorem dX12_slipped_11 : decode cX12_slipped 11 = .ok (.iload 4, 2) := by decide +kernel
theorem dX12_slipped_13 : decode cX12_slipped 13 = .ok (.iload_n 2, 1) := by decide +kernel
theorem dX12_slipped_14 : decode cX12_slipped 14 = .ok (.if_icmp .ge 14, 3) := by decide +kernel
theorem dX12_slipped_17 : decode cX12_slipped 17 = .ok (.iload_n 3, 1) := by decide +kernel
theorem dX12_slipped_18 : decode cX12_slipped 18 = .ok (.bipush 10, 2) := by decide +kernel
theorem dX12_slipped_20 : decode cX12_slipped 20 = .ok (.imul, 1) := by decide +kernel
theorem dX12_slipped_21 : decode cX12_slipped 21 = .ok (.istore_n 3, 1) := by decide +kernel
theorem dX12_slipped_22 : decode cX12_slipped 22 = .ok (.iinc 4 1, 3) := by decide +kernel
theorem dX12_slipped_25 : decode cX12_slipped 25 = .ok (.goto (-14), 3) := by decide +kernel
theorem dX12_slipped_28 : decode cX12_slipped 28 = .ok (.iload_n 1, 1) := by decide +kernel
theorem dX12_slipped_29 : decode cX12_slipped 29 = .ok (.iload_n 3, 1) := by decide +kernel
theorem dX12_slipped_30 : decode cX12_slipped 30 = .ok (.idiv, 1) := by decide +kernel
theorem dX12_slipped_31 : decode cX12_slipped 31 = .ok (.bipush 10, 2) := by decide +kernel
theorem dX12_slipped_33 : decode cX12_slipped 33 = .ok (.irem, 1) := by decide +kernel
theorem dX12_slipped_34 : decode cX12_slipped 34 = .ok (.istore 4, 2) := by decide +kernel
theorem dX12_slipped_36 : decode cX12_slipped 36 = .ok (.aload_n 0, 1) := by decide +kernel
theorem dX12_slipped_37 : decode cX12_slipped 37 = .ok (.iconst 2, 1) := by decide +kernel
theorem dX12_slipped_38 : decode cX12_slipped 38 = .ok (.invokevirtual 227, 3) := by decide +kernel
theorem dX12_slipped_41 : decode cX12_slipped 41 = .ok (.ifCond .ne 13, 3) := by decide +kernel
theorem dX12_slipped_44 : decode cX12_slipped 44 = .ok (.iload 4, 2) := by decide +kernel
theorem dX12_slipped_46 : decode cX12_slipped 46 = .ok (.iconst 1, 1) := by decide +kernel
theorem dX12_slipped_47 : decode cX12_slipped 47 = .ok (.iadd, 1) := by decide +kernel
theorem dX12_slipped_48 : decode cX12_slipped 48 = .ok (.bipush 10, 2) := by decide +kernel
theorem dX12_slipped_50 : decode cX12_slipped 50 = .ok (.irem, 1) := by decide +kernel
theorem dX12_slipped_51 : decode cX12_slipped 51 = .ok (.goto 11, 3) := by decide +kernel
theorem dX12_slipped_54 : decode cX12_slipped 54 = .ok (.iload 4, 2) := by decide +kernel
theorem dX12_slipped_56 : decode cX12_slipped 56 = .ok (.bipush 9, 2) := by decide +kernel
theorem dX12_slipped_58 : decode cX12_slipped 58 = .ok (.iadd, 1) := by decide +kernel
theorem dX12_slipped_59 : decode cX12_slipped 59 = .ok (.bipush 10, 2) := by decide +kernel
theorem dX12_slipped_61 : decode cX12_slipped 61 = .ok (.irem, 1) := by decide +kernel
theorem dX12_slipped_62 : decode cX12_slipped 62 = .ok (.istore 5, 2) := by decide +kernel
theorem dX12_slipped_64 : decode cX12_slipped 64 = .ok (.iload_n 1, 1) := by decide +kernel
theorem dX12_slipped_65 : decode cX12_slipped 65 = .ok (.iload_n 3, 1) := by decide +kernel
theorem dX12_slipped_66 : decode cX12_slipped 66 = .ok (.iload 5, 2) := by decide +kernel
theorem dX12_slipped_68 : decode cX12_slipped 68 = .ok (.iload 4, 2) := by decide +kernel
theorem dX12_slipped_70 : decode cX12_slipped 70 = .ok (.isub, 1) := by decide +kernel
theorem dX12_slipped_71 : decode cX12_slipped 71 = .ok (.imul, 1) := by decide +kernel
theorem dX12_slipped_72 : decode cX12_slipped 72 = .ok (.iadd, 1) := by decide +kernel
theorem dX12_slipped_73 : decode cX12_slipped 73 = .ok (.ireturn, 1) := by decide +kernel
theorem dX12_day_0 : decode cX12_day 0 = .ok (.aload_n 0, 1) := by decide +kernel
theorem dX12_day_1 : decode cX12_day 1 = .ok (.iload_n 1, 1) := by decide +kernel
theorem dX12_day_2 : decode cX12_day 2 = .ok (.invokevirtual 125, 3) := by decide +kernel
theorem dX12_day_5 : decode cX12_day 5 = .ok (.ifCond .eq 17, 3) := by decide +kernel
theorem dX12_day_8 : decode cX12_day 8 = .ok (.iload_n 2, 1) := by decide +kernel
theorem dX12_day_9 : decode cX12_day 9 = .ok (.invokestatic 101, 3) := by decide +kernel
theorem dX12_day_12 : decode cX12_day 12 = .ok (.ifCond .eq 10, 3) := by decide +kernel
theorem dX12_day_15 : decode cX12_day 15 = .ok (.iload_n 3, 1) := by decide +kernel
theorem dX12_day_16 : decode cX12_day 16 = .ok (.invokestatic 101, 3) := by decide +kernel
theorem dX12_day_19 : decode cX12_day 19 = .ok (.ifCond .ne 5, 3) := by decide +kernel
theorem dX12_day_22 : decode cX12_day 22 = .ok (.iconst (-1), 1) := by decide +kernel
theorem dX12_day_23 : decode cX12_day 23 = .ok (.ireturn, 1) := by decide +kernel
theorem dX12_day_24 : decode cX12_day 24 = .ok (.aload_n 0, 1) := by decide +kernel
theorem dX12_day_25 : decode cX12_day 25 = .ok (.iload_n 2, 1) := by decide +kernel
theorem dX12_day_26 : decode cX12_day 26 = .ok (.invokevirtual 175, 3) := by decide +kernel
theorem dX12_day_29 : decode cX12_day 29 = .ok (.istore 5, 2) := by decide +kernel
theorem dX12_day_31 : decode cX12_day 31 = .ok (.iload 5, 2) := by decide +kernel
theorem dX12_day_33 : decode cX12_day 33 = .ok (.ifCond .eq 6, 3) := by decide +kernel
theorem dX12_day_36 : decode cX12_day 36 = .ok (.iload 5, 2) := by decide +kernel
theorem dX12_day_38 : decode cX12_day 38 = .ok (.ireturn, 1) := by decide +kernel
theorem dX12_day_39 : decode cX12_day 39 = .ok (.aload_n 0, 1) := by decide +kernel
theorem dX12_day_40 : decode cX12_day 40 = .ok (.iload 4, 2) := by decide +kernel
theorem dX12_day_42 : decode cX12_day 42 = .ok (.putfield 221, 3) := by decide +kernel
theorem dX12_day_45 : decode cX12_day 45 = .ok (.aload_n 0, 1) := by decide +kernel
theorem dX12_day_46 : decode cX12_day 46 = .ok (.iload_n 2, 1) := by decide +kernel
theorem dX12_day_47 : decode cX12_day 47 = .ok (.invokevirtual 171, 3) := by decide +kernel
theorem dX12_day_50 : decode cX12_day 50 = .ok (.istore 6, 2) := by decide +kernel
theorem dX12_day_52 : decode cX12_day 52 = .ok (.iconst 0, 1) := by decide +kernel
theorem dX12_day_53 : decode cX12_day 53 = .ok (.istore 7, 2) := by decide +kernel
theorem dX12_day_55 : decode cX12_day 55 = .ok (.iconst 0, 1) := by decide +kernel
theorem dX12_day_56 : decode cX12_day 56 = .ok (.istore 8, 2) := by decide +kernel
theorem dX12_day_58 : decode cX12_day 58 = .ok (.iload 8, 2) := by decide +kernel
theorem dX12_day_60 : decode cX12_day 60 = .ok (.iload 6, 2) := by decide +kernel
theorem dX12_day_62 : decode cX12_day 62 = .ok (.if_icmp .ge 70, 3) := by decide +kernel
theorem dX12_day_65 : decode cX12_day 65 = .ok (.aload_n 0, 1) := by decide +kernel
theorem dX12_day_66 : decode cX12_day 66 = .ok (.aload_n 0, 1) := by decide +kernel
theorem dX12_day_67 : decode cX12_day 67 = .ok (.iload_n 1, 1) := by decide +kernel
theorem dX12_day_68 : decode cX12_day 68 = .ok (.iconst 0, 1) := by decide +kernel
theorem dX12_day_69 : decode cX12_day 69 = .ok (.invokevirtual 128, 3) := by decide +kernel
theorem dX12_day_72 : decode cX12_day 72 = .ok (.aload_n 0, 1) := by decide +kernel
theorem dX12_day_73 : decode cX12_day 73 = .ok (.iload_n 2, 1) := by decide +kernel
theorem dX12_day_74 : decode cX12_day 74 = .ok (.iload 8, 2) := by decide +kernel
theorem dX12_day_76 : decode cX12_day 76 = .ok (.invokevirtual 181, 3) := by decide +kernel
theorem dX12_day_79 : decode cX12_day 79 = .ok (.aload_n 0, 1) := by decide +kernel
theorem dX12_day_80 : decode cX12_day 80 = .ok (.iload_n 2, 1) := by decide +kernel
theorem dX12_day_81 : decode cX12_day 81 = .ok (.iload 8, 2) := by decide +kernel
theorem dX12_day_83 : decode cX12_day 83 = .ok (.invokevirtual 184, 3) := by decide +kernel
theorem dX12_day_86 : decode cX12_day 86 = .ok (.invokevirtual 157, 3) := by decide +kernel
theorem dX12_day_89 : decode cX12_day 89 = .ok (.istore 9, 2) := by decide +kernel
theorem dX12_day_91 : decode cX12_day 91 = .ok (.aload_n 0, 1) := by decide +kernel
theorem dX12_day_92 : decode cX12_day 92 = .ok (.bipush 100, 2) := by decide +kernel
theorem dX12_day_94 : decode cX12_day 94 = .ok (.invokevirtual 227, 3) := by decide +kernel
theorem dX12_day_97 : decode cX12_day 97 = .ok (.aload_n 0, 1) := by decide +kernel
theorem dX12_day_98 : decode cX12_day 98 = .ok (.iload_n 1, 1) := by decide +kernel
theorem dX12_day_99 : decode cX12_day 99 = .ok (.iconst 1, 1) := by decide +kernel
theorem dX12_day_100 : decode cX12_day 100 = .ok (.invokevirtual 128, 3) := by decide +kernel
theorem dX12_day_103 : decode cX12_day 103 = .ok (.if_icmp .ge 14, 3) := by decide +kernel
theorem dX12_day_106 : decode cX12_day 106 = .ok (.aload_n 0, 1) := by decide +kernel
theorem dX12_day_107 : decode cX12_day 107 = .ok (.iload 9, 2) := by decide +kernel
theorem dX12_day_109 : decode cX12_day 109 = .ok (.invokevirtual 230, 3) := by decide +kernel
theorem dX12_day_112 : decode cX12_day 112 = .ok (.istore 9, 2) := by decide +kernel
theorem dX12_day_114 : decode cX12_day 114 = .ok (.iinc 7 1, 3) := by decide +kernel
theorem dX12_day_117 : decode cX12_day 117 = .ok (.aload_n 0, 1) := by decide +kernel
theorem dX12_day_118 : decode cX12_day 118 = .ok (.getfield 52, 3) := by decide +kernel
theorem dX12_day_121 : decode cX12_day 121 = .ok (.iload 8, 2) := by decide +kernel
theorem dX12_day_123 : decode cX12_day 123 = .ok (.iload 9, 2) := by decide +kernel
theorem dX12_day_125 : decode cX12_day 125 = .ok (.iastore, 1) := by decide +kernel
theorem dX12_day_126 : decode cX12_day 126 = .ok (.iinc 8 1, 3) := by decide +kernel
theorem dX12_day_129 : decode cX12_day 129 = .ok (.goto (-71), 3) := by decide +kernel
theorem dX12_day_132 : decode cX12_day 132 = .ok (.aload_n 0, 1) := by decide +kernel
theorem dX12_day_133 : decode cX12_day 133 = .ok (.iload_n 3, 1) := by decide +kernel
theorem dX12_day_134 : decode cX12_day 134 = .ok (.iconst 2, 1) := by decide +kernel
theorem dX12_day_135 : decode cX12_day 135 = .ok (.iload 6, 2) := by decide +kernel
theorem dX12_day_137 : decode cX12_day 137 = .ok (.invokevirtual 233, 3) := by decide +kernel
theorem dX12_day_140 : decode cX12_day 140 = .ok (.istore 8, 2) := by decide +kernel
theorem dX12_day_142 : decode cX12_day 142 = .ok (.iconst 0, 1) := by decide +kernel
theorem dX12_day_143 : decode cX12_day 143 = .ok (.istore 9, 2) := by decide +kernel
theorem dX12_day_145 : decode cX12_day 145 = .ok (.iload 9, 2) := by decide +kernel
theorem dX12_day_147 : decode cX12_day 147 = .ok (.iload 6, 2) := by decide +kernel
theorem dX12_day_149 : decode cX12_day 149 = .ok (.if_icmp .ge 28, 3) := by decide +kernel
theorem dX12_day_152 : decode cX12_day 152 = .ok (.aload_n 0, 1) := by decide +kernel
theorem dX12_day_153 : decode cX12_day 153 = .ok (.getfield 28, 3) := by decide +kernel
theorem dX12_day_156 : decode cX12_day 156 = .ok (.bipush 100, 2) := by decide +kernel
theorem dX12_day_158 : decode cX12_day 158 = .ok (.iload_n 3, 1) := by decide +kernel
theorem dX12_day_159 : decode cX12_day 159 = .ok (.imul, 1) := by decide +kernel
theorem dX12_day_160 : decode cX12_day 160 = .ok (.iload 9, 2) := by decide +kernel
theorem dX12_day_162 : decode cX12_day 162 = .ok (.iadd, 1) := by decide +kernel
theorem dX12_day_163 : decode cX12_day 163 = .ok (.aload_n 0, 1) := by decide +kernel
theorem dX12_day_164 : decode cX12_day 164 = .ok (.getfield 52, 3) := by decide +kernel
theorem dX12_day_167 : decode cX12_day 167 = .ok (.iload 9, 2) := by decide +kernel
theorem dX12_day_169 : decode cX12_day 169 = .ok (.iaload, 1) := by decide +kernel
theorem dX12_day_170 : decode cX12_day 170 = .ok (.iastore, 1) := by decide +kernel
theorem dX12_day_171 : decode cX12_day 171 = .ok (.iinc 9 1, 3) := by decide +kernel
theorem dX12_day_174 : decode cX12_day 174 = .ok (.goto (-29), 3) := by decide +kernel
theorem dX12_day_177 : decode cX12_day 177 = .ok (.iload 7, 2) := by decide +kernel
theorem dX12_day_179 : decode cX12_day 179 = .ok (.ireturn, 1) := by decide +kernel
theorem dX12_say_0 : decode cX12_say 0 = .ok (.aload_n 0, 1) := by decide +kernel
theorem dX12_say_1 : decode cX12_say 1 = .ok (.iload_n 1, 1) := by decide +kernel
theorem dX12_say_2 : decode cX12_say 2 = .ok (.invokevirtual 125, 3) := by decide +kernel
theorem dX12_say_5 : decode cX12_say 5 = .ok (.ifCond .eq 15, 3) := by decide +kernel
theorem dX12_say_8 : decode cX12_say 8 = .ok (.iload_n 2, 1) := by decide +kernel
theorem dX12_say_9 : decode cX12_say 9 = .ok (.i2l, 1) := by decide +kernel
theorem dX12_say_10 : decode cX12_say 10 = .ok (.lconst 0, 1) := by decide +kernel
theorem dX12_say_11 : decode cX12_say 11 = .ok (.ldc2_w 131, 3) := by decide +kernel
theorem dX12_say_14 : decode cX12_say 14 = .ok (.invokestatic 62, 3) := by decide +kernel
theorem dX12_say_17 : decode cX12_say 17 = .ok (.ifCond .ne 5, 3) := by decide +kernel
theorem dX12_say_20 : decode cX12_say 20 = .ok (.iconst (-1), 1) := by decide +kernel
theorem dX12_say_21 : decode cX12_say 21 = .ok (.ireturn, 1) := by decide +kernel
theorem dX12_say_22 : decode cX12_say 22 = .ok (.aload_n 0, 1) := by decide +kernel
theorem dX12_say_23 : decode cX12_say 23 = .ok (.getfield 9, 3) := by decide +kernel
theorem dX12_say_26 : decode cX12_say 26 = .ok (.bipush 32, 2) := by decide +kernel
theorem dX12_say_28 : decode cX12_say 28 = .ok (.iconst 3, 1) := by decide +kernel
theorem dX12_say_29 : decode cX12_say 29 = .ok (.iload_n 1, 1) := by decide +kernel
theorem dX12_say_30 : decode cX12_say 30 = .ok (.imul, 1) := by decide +kernel
theorem dX12_say_31 : decode cX12_say 31 = .ok (.iadd, 1) := by decide +kernel
theorem dX12_say_32 : decode cX12_say 32 = .ok (.aload_n 0, 1) := by decide +kernel
theorem dX12_say_33 : decode cX12_say 33 = .ok (.iload_n 2, 1) := by decide +kernel
theorem dX12_say_34 : decode cX12_say 34 = .ok (.aload_n 0, 1) := by decide +kernel
theorem dX12_say_35 : decode cX12_say 35 = .ok (.iload_n 1, 1) := by decide +kernel
theorem dX12_say_36 : decode cX12_say 36 = .ok (.iconst 0, 1) := by decide +kernel
theorem dX12_say_37 : decode cX12_say 37 = .ok (.invokevirtual 128, 3) := by decide +kernel
theorem dX12_say_40 : decode cX12_say 40 = .ok (.invokevirtual 133, 3) := by decide +kernel
theorem dX12_say_43 : decode cX12_say 43 = .ok (.iastore, 1) := by decide +kernel
theorem dX12_say_44 : decode cX12_say 44 = .ok (.aload_n 0, 1) := by decide +kernel
theorem dX12_say_45 : decode cX12_say 45 = .ok (.iload_n 1, 1) := by decide +kernel
theorem dX12_say_46 : decode cX12_say 46 = .ok (.iconst 0, 1) := by decide +kernel
theorem dX12_say_47 : decode cX12_say 47 = .ok (.invokevirtual 128, 3) := by decide +kernel
theorem dX12_say_50 : decode cX12_say 50 = .ok (.ireturn, 1) := by decide +kernel
theorem dX12_marksBy_0 : decode cX12_marksBy 0 = .ok (.iconst 0, 1) := by decide +kernel
theorem dX12_marksBy_1 : decode cX12_marksBy 1 = .ok (.istore_n 3, 1) := by decide +kernel
theorem dX12_marksBy_2 : decode cX12_marksBy 2 = .ok (.iconst 0, 1) := by decide +kernel
theorem dX12_marksBy_3 : decode cX12_marksBy 3 = .ok (.istore 4, 2) := by decide +kernel
theorem dX12_marksBy_5 : decode cX12_marksBy 5 = .ok (.iload 4, 2) := by decide +kernel
theorem dX12_marksBy_7 : decode cX12_marksBy 7 = .ok (.aload_n 0, 1) := by decide +kernel
theorem dX12_marksBy_8 : decode cX12_marksBy 8 = .ok (.getfield 9, 3) := by decide +kernel
theorem dX12_marksBy_11 : decode cX12_marksBy 11 = .ok (.iconst 1, 1) := by decide +kernel
theorem dX12_marksBy_12 : decode cX12_marksBy 12 = .ok (.iaload, 1) := by decide +kernel
theorem dX12_marksBy_13 : decode cX12_marksBy 13 = .ok (.if_icmp .ge 44, 3) := by decide +kernel
theorem dX12_marksBy_16 : decode cX12_marksBy 16 = .ok (.iload_n 3, 1) := by decide +kernel
theorem dX12_marksBy_17 : decode cX12_marksBy 17 = .ok (.aload_n 0, 1) := by decide +kernel
theorem dX12_marksBy_18 : decode cX12_marksBy 18 = .ok (.iload_n 1, 1) := by decide +kernel
theorem dX12_marksBy_19 : decode cX12_marksBy 19 = .ok (.ifCond .ge 13, 3) := by decide +kernel
theorem dX12_marksBy_22 : decode cX12_marksBy 22 = .ok (.aload_n 0, 1) := by decide +kernel
theorem dX12_marksBy_23 : decode cX12_marksBy 23 = .ok (.iload 4, 2) := by decide +kernel
theorem dX12_marksBy_25 : decode cX12_marksBy 25 = .ok (.iconst 0, 1) := by decide +kernel
theorem dX12_marksBy_26 : decode cX12_marksBy 26 = .ok (.invokevirtual 128, 3) := by decide +kernel
theorem dX12_marksBy_29 : decode cX12_marksBy 29 = .ok (.goto 15, 3) := by decide +kernel
theorem dX12_marksBy_32 : decode cX12_marksBy 32 = .ok (.aload_n 0, 1) := by decide +kernel
theorem dX12_marksBy_33 : decode cX12_marksBy 33 = .ok (.iload_n 1, 1) := by decide +kernel
theorem dX12_marksBy_34 : decode cX12_marksBy 34 = .ok (.aload_n 0, 1) := by decide +kernel
theorem dX12_marksBy_35 : decode cX12_marksBy 35 = .ok (.iload 4, 2) := by decide +kernel
theorem dX12_marksBy_37 : decode cX12_marksBy 37 = .ok (.iconst 0, 1) := by decide +kernel
theorem dX12_marksBy_38 : decode cX12_marksBy 38 = .ok (.invokevirtual 128, 3) := by decide +kernel
theorem dX12_marksBy_41 : decode cX12_marksBy 41 = .ok (.invokevirtual 133, 3) := by decide +kernel
theorem dX12_marksBy_44 : decode cX12_marksBy 44 = .ok (.iload_n 2, 1) := by decide +kernel
theorem dX12_marksBy_45 : decode cX12_marksBy 45 = .ok (.iconst 0, 1) := by decide +kernel
theorem dX12_marksBy_46 : decode cX12_marksBy 46 = .ok (.invokevirtual 215, 3) := by decide +kernel
theorem dX12_marksBy_49 : decode cX12_marksBy 49 = .ok (.iadd, 1) := by decide +kernel
theorem dX12_marksBy_50 : decode cX12_marksBy 50 = .ok (.istore_n 3, 1) := by decide +kernel
theorem dX12_marksBy_51 : decode cX12_marksBy 51 = .ok (.iinc 4 1, 3) := by decide +kernel
theorem dX12_marksBy_54 : decode cX12_marksBy 54 = .ok (.goto (-49), 3) := by decide +kernel
theorem dX12_marksBy_57 : decode cX12_marksBy 57 = .ok (.iload_n 3, 1) := by decide +kernel
theorem dX12_marksBy_58 : decode cX12_marksBy 58 = .ok (.ireturn, 1) := by decide +kernel
theorem dX12_bestSaying_0 : decode cX12_bestSaying 0 = .ok (.aload_n 0, 1) := by decide +kernel
theorem dX12_bestSaying_1 : decode cX12_bestSaying 1 = .ok (.iload_n 1, 1) := by decide +kernel
theorem dX12_bestSaying_2 : decode cX12_bestSaying 2 = .ok (.invokevirtual 175, 3) := by decide +kernel
theorem dX12_bestSaying_5 : decode cX12_bestSaying 5 = .ok (.istore_n 2, 1) := by decide +kernel
theorem dX12_bestSaying_6 : decode cX12_bestSaying 6 = .ok (.iload_n 2, 1) := by decide +kernel
theorem dX12_bestSaying_7 : decode cX12_bestSaying 7 = .ok (.ifCond .eq 5, 3) := by decide +kernel
theorem dX12_bestSaying_10 : decode cX12_bestSaying 10 = .ok (.iload_n 2, 1) := by decide +kernel
theorem dX12_bestSaying_11 : decode cX12_bestSaying 11 = .ok (.ireturn, 1) := by decide +kernel
theorem dX12_bestSaying_12 : decode cX12_bestSaying 12 = .ok (.bipush (-4), 2) := by decide +kernel
theorem dX12_bestSaying_14 : decode cX12_bestSaying 14 = .ok (.istore_n 3, 1) := by decide +kernel
theorem dX12_bestSaying_15 : decode cX12_bestSaying 15 = .ok (.aload_n 0, 1) := by decide +kernel
theorem dX12_bestSaying_16 : decode cX12_bestSaying 16 = .ok (.bipush (-4), 2) := by decide +kernel
theorem dX12_bestSaying_18 : decode cX12_bestSaying 18 = .ok (.iload_n 1, 1) := by decide +kernel
theorem dX12_bestSaying_19 : decode cX12_bestSaying 19 = .ok (.invokevirtual 236, 3) := by decide +kernel
theorem dX12_bestSaying_22 : decode cX12_bestSaying 22 = .ok (.istore 4, 2) := by decide +kernel
theorem dX12_bestSaying_24 : decode cX12_bestSaying 24 = .ok (.iconst 0, 1) := by decide +kernel
theorem dX12_bestSaying_25 : decode cX12_bestSaying 25 = .ok (.istore 5, 2) := by decide +kernel
theorem dX12_bestSaying_27 : decode cX12_bestSaying 27 = .ok (.iload 5, 2) := by decide +kernel
theorem dX12_bestSaying_29 : decode cX12_bestSaying 29 = .ok (.bipush 10, 2) := by decide +kernel
theorem dX12_bestSaying_31 : decode cX12_bestSaying 31 = .ok (.if_icmp .ge 35, 3) := by decide +kernel
theorem dX12_bestSaying_34 : decode cX12_bestSaying 34 = .ok (.aload_n 0, 1) := by decide +kernel
theorem dX12_bestSaying_35 : decode cX12_bestSaying 35 = .ok (.iload 5, 2) := by decide +kernel
theorem dX12_bestSaying_37 : decode cX12_bestSaying 37 = .ok (.iload_n 1, 1) := by decide +kernel
theorem dX12_bestSaying_38 : decode cX12_bestSaying 38 = .ok (.invokevirtual 236, 3) := by decide +kernel
theorem dX12_bestSaying_41 : decode cX12_bestSaying 41 = .ok (.istore 6, 2) := by decide +kernel
theorem dX12_bestSaying_43 : decode cX12_bestSaying 43 = .ok (.iload 6, 2) := by decide +kernel
theorem dX12_bestSaying_45 : decode cX12_bestSaying 45 = .ok (.iload 4, 2) := by decide +kernel
theorem dX12_bestSaying_47 : decode cX12_bestSaying 47 = .ok (.if_icmp .gt 6, 3) := by decide +kernel
theorem dX12_bestSaying_50 : decode cX12_bestSaying 50 = .ok (.goto 10, 3) := by decide +kernel
theorem dX12_bestSaying_53 : decode cX12_bestSaying 53 = .ok (.iload 5, 2) := by decide +kernel
theorem dX12_bestSaying_55 : decode cX12_bestSaying 55 = .ok (.istore_n 3, 1) := by decide +kernel
theorem dX12_bestSaying_56 : decode cX12_bestSaying 56 = .ok (.iload 6, 2) := by decide +kernel
theorem dX12_bestSaying_58 : decode cX12_bestSaying 58 = .ok (.istore 4, 2) := by decide +kernel
theorem dX12_bestSaying_60 : decode cX12_bestSaying 60 = .ok (.iinc 5 1, 3) := by decide +kernel
theorem dX12_bestSaying_63 : decode cX12_bestSaying 63 = .ok (.goto (-36), 3) := by decide +kernel
theorem dX12_bestSaying_66 : decode cX12_bestSaying 66 = .ok (.iload_n 3, 1) := by decide +kernel
theorem dX12_bestSaying_67 : decode cX12_bestSaying 67 = .ok (.ireturn, 1) := by decide +kernel
theorem dX12_weeks_0 : decode cX12_weeks 0 = .ok (.iload_n 1, 1) := by decide +kernel
theorem dX12_weeks_1 : decode cX12_weeks 1 = .ok (.i2l, 1) := by decide +kernel
theorem dX12_weeks_2 : decode cX12_weeks 2 = .ok (.lconst 1, 1) := by decide +kernel
theorem dX12_weeks_3 : decode cX12_weeks 3 = .ok (.ldc2_w 239, 3) := by decide +kernel
theorem dX12_weeks_6 : decode cX12_weeks 6 = .ok (.invokestatic 62, 3) := by decide +kernel
theorem dX12_weeks_9 : decode cX12_weeks 9 = .ok (.ifCond .eq 27, 3) := by decide +kernel
theorem dX12_weeks_12 : decode cX12_weeks 12 = .ok (.iload_n 2, 1) := by decide +kernel
theorem dX12_weeks_13 : decode cX12_weeks 13 = .ok (.i2l, 1) := by decide +kernel
theorem dX12_weeks_14 : decode cX12_weeks 14 = .ok (.lconst 0, 1) := by decide +kernel
theorem dX12_weeks_15 : decode cX12_weeks 15 = .ok (.ldc2_w 241, 3) := by decide +kernel
theorem dX12_weeks_18 : decode cX12_weeks 18 = .ok (.invokestatic 62, 3) := by decide +kernel
theorem dX12_weeks_21 : decode cX12_weeks 21 = .ok (.ifCond .eq 15, 3) := by decide +kernel
theorem dX12_weeks_24 : decode cX12_weeks 24 = .ok (.iload_n 3, 1) := by decide +kernel
theorem dX12_weeks_25 : decode cX12_weeks 25 = .ok (.i2l, 1) := by decide +kernel
theorem dX12_weeks_26 : decode cX12_weeks 26 = .ok (.lconst 0, 1) := by decide +kernel
theorem dX12_weeks_27 : decode cX12_weeks 27 = .ok (.ldc2_w 241, 3) := by decide +kernel
theorem dX12_weeks_30 : decode cX12_weeks 30 = .ok (.invokestatic 62, 3) := by decide +kernel
theorem dX12_weeks_33 : decode cX12_weeks 33 = .ok (.ifCond .ne 5, 3) := by decide +kernel
theorem dX12_weeks_36 : decode cX12_weeks 36 = .ok (.iconst (-1), 1) := by decide +kernel
theorem dX12_weeks_37 : decode cX12_weeks 37 = .ok (.ireturn, 1) := by decide +kernel
theorem dX12_weeks_38 : decode cX12_weeks 38 = .ok (.aload_n 0, 1) := by decide +kernel
theorem dX12_weeks_39 : decode cX12_weeks 39 = .ok (.getfield 9, 3) := by decide +kernel
theorem dX12_weeks_42 : decode cX12_weeks 42 = .ok (.iconst 1, 1) := by decide +kernel
theorem dX12_weeks_43 : decode cX12_weeks 43 = .ok (.iaload, 1) := by decide +kernel
theorem dX12_weeks_44 : decode cX12_weeks 44 = .ok (.ifCond .ne 6, 3) := by decide +kernel
theorem dX12_weeks_47 : decode cX12_weeks 47 = .ok (.bipush (-3), 2) := by decide +kernel
theorem dX12_weeks_49 : decode cX12_weeks 49 = .ok (.ireturn, 1) := by decide +kernel
theorem dX12_weeks_50 : decode cX12_weeks 50 = .ok (.aload_n 0, 1) := by decide +kernel
theorem dX12_weeks_51 : decode cX12_weeks 51 = .ok (.iload 4, 2) := by decide +kernel
theorem dX12_weeks_53 : decode cX12_weeks 53 = .ok (.putfield 221, 3) := by decide +kernel
theorem dX12_weeks_56 : decode cX12_weeks 56 = .ok (.iconst 0, 1) := by decide +kernel
theorem dX12_weeks_57 : decode cX12_weeks 57 = .ok (.istore 5, 2) := by decide +kernel
theorem dX12_weeks_59 : decode cX12_weeks 59 = .ok (.iload 5, 2) := by decide +kernel
theorem dX12_weeks_61 : decode cX12_weeks 61 = .ok (.aload_n 0, 1) := by decide +kernel
theorem dX12_weeks_62 : decode cX12_weeks 62 = .ok (.getfield 9, 3) := by decide +kernel
theorem dX12_weeks_65 : decode cX12_weeks 65 = .ok (.iconst 1, 1) := by decide +kernel
theorem dX12_weeks_66 : decode cX12_weeks 66 = .ok (.iaload, 1) := by decide +kernel
theorem dX12_weeks_67 : decode cX12_weeks 67 = .ok (.if_icmp .ge 23, 3) := by decide +kernel
theorem dX12_weeks_70 : decode cX12_weeks 70 = .ok (.aload_n 0, 1) := by decide +kernel
theorem dX12_weeks_71 : decode cX12_weeks 71 = .ok (.getfield 55, 3) := by decide +kernel
theorem dX12_weeks_74 : decode cX12_weeks 74 = .ok (.iload 5, 2) := by decide +kernel
theorem dX12_weeks_76 : decode cX12_weeks 76 = .ok (.aload_n 0, 1) := by decide +kernel
theorem dX12_weeks_77 : decode cX12_weeks 77 = .ok (.iload 5, 2) := by decide +kernel
theorem dX12_weeks_79 : decode cX12_weeks 79 = .ok (.iconst 0, 1) := by decide +kernel
theorem dX12_weeks_80 : decode cX12_weeks 80 = .ok (.invokevirtual 128, 3) := by decide +kernel
theorem dX12_weeks_83 : decode cX12_weeks 83 = .ok (.iastore, 1) := by decide +kernel
theorem dX12_weeks_84 : decode cX12_weeks 84 = .ok (.iinc 5 1, 3) := by decide +kernel
theorem dX12_weeks_87 : decode cX12_weeks 87 = .ok (.goto (-28), 3) := by decide +kernel
theorem dX12_weeks_90 : decode cX12_weeks 90 = .ok (.iconst 0, 1) := by decide +kernel
theorem dX12_weeks_91 : decode cX12_weeks 91 = .ok (.istore 5, 2) := by decide +kernel
theorem dX12_weeks_93 : decode cX12_weeks 93 = .ok (.iload 5, 2) := by decide +kernel
theorem dX12_weeks_95 : decode cX12_weeks 95 = .ok (.iload_n 1, 1) := by decide +kernel
theorem dX12_weeks_96 : decode cX12_weeks 96 = .ok (.if_icmp .ge 90, 3) := by decide +kernel
theorem dX12_weeks_99 : decode cX12_weeks 99 = .ok (.iconst 0, 1) := by decide +kernel
theorem dX12_weeks_100 : decode cX12_weeks 100 = .ok (.istore 6, 2) := by decide +kernel
theorem dX12_weeks_102 : decode cX12_weeks 102 = .ok (.iload 6, 2) := by decide +kernel
theorem dX12_weeks_104 : decode cX12_weeks 104 = .ok (.aload_n 0, 1) := by decide +kernel
theorem dX12_weeks_105 : decode cX12_weeks 105 = .ok (.getfield 9, 3) := by decide +kernel
theorem dX12_weeks_108 : decode cX12_weeks 108 = .ok (.iconst 1, 1) := by decide +kernel
theorem dX12_weeks_109 : decode cX12_weeks 109 = .ok (.iaload, 1) := by decide +kernel
theorem dX12_weeks_110 : decode cX12_weeks 110 = .ok (.if_icmp .ge 70, 3) := by decide +kernel
theorem dX12_weeks_113 : decode cX12_weeks 113 = .ok (.aload_n 0, 1) := by decide +kernel
theorem dX12_weeks_114 : decode cX12_weeks 114 = .ok (.bipush 100, 2) := by decide +kernel
theorem dX12_weeks_116 : decode cX12_weeks 116 = .ok (.invokevirtual 227, 3) := by decide +kernel
theorem dX12_weeks_119 : decode cX12_weeks 119 = .ok (.istore 7, 2) := by decide +kernel
theorem dX12_weeks_121 : decode cX12_weeks 121 = .ok (.aload_n 0, 1) := by decide +kernel
theorem dX12_weeks_122 : decode cX12_weeks 122 = .ok (.getfield 55, 3) := by decide +kernel
theorem dX12_weeks_125 : decode cX12_weeks 125 = .ok (.iload 6, 2) := by decide +kernel
theorem dX12_weeks_127 : decode cX12_weeks 127 = .ok (.iload 7, 2) := by decide +kernel
theorem dX12_weeks_129 : decode cX12_weeks 129 = .ok (.iload_n 2, 1) := by decide +kernel
theorem dX12_weeks_130 : decode cX12_weeks 130 = .ok (.if_icmp .ge 18, 3) := by decide +kernel
theorem dX12_weeks_133 : decode cX12_weeks 133 = .ok (.aload_n 0, 1) := by decide +kernel
theorem dX12_weeks_134 : decode cX12_weeks 134 = .ok (.iconst 0, 1) := by decide +kernel
theorem dX12_weeks_135 : decode cX12_weeks 135 = .ok (.aload_n 0, 1) := by decide +kernel
theorem dX12_weeks_136 : decode cX12_weeks 136 = .ok (.getfield 55, 3) := by decide +kernel
theorem dX12_weeks_139 : decode cX12_weeks 139 = .ok (.iload 6, 2) := by decide +kernel
theorem dX12_weeks_141 : decode cX12_weeks 141 = .ok (.iaload, 1) := by decide +kernel
theorem dX12_weeks_142 : decode cX12_weeks 142 = .ok (.invokevirtual 133, 3) := by decide +kernel
theorem dX12_weeks_145 : decode cX12_weeks 145 = .ok (.goto 28, 3) := by decide +kernel
theorem dX12_weeks_148 : decode cX12_weeks 148 = .ok (.iload 7, 2) := by decide +kernel
theorem dX12_weeks_150 : decode cX12_weeks 150 = .ok (.iload_n 2, 1) := by decide +kernel
theorem dX12_weeks_151 : decode cX12_weeks 151 = .ok (.iload_n 3, 1) := by decide +kernel
theorem dX12_weeks_152 : decode cX12_weeks 152 = .ok (.iadd, 1) := by decide +kernel
theorem dX12_weeks_153 : decode cX12_weeks 153 = .ok (.if_icmp .ge 13, 3) := by decide +kernel
theorem dX12_weeks_156 : decode cX12_weeks 156 = .ok (.aload_n 0, 1) := by decide +kernel
theorem dX12_weeks_157 : decode cX12_weeks 157 = .ok (.iload 6, 2) := by decide +kernel
theorem dX12_weeks_159 : decode cX12_weeks 159 = .ok (.iconst 2, 1) := by decide +kernel
theorem dX12_weeks_160 : decode cX12_weeks 160 = .ok (.invokevirtual 128, 3) := by decide +kernel
theorem dX12_weeks_163 : decode cX12_weeks 163 = .ok (.goto 10, 3) := by decide +kernel
theorem dX12_weeks_166 : decode cX12_weeks 166 = .ok (.aload_n 0, 1) := by decide +kernel
theorem dX12_weeks_167 : decode cX12_weeks 167 = .ok (.getfield 55, 3) := by decide +kernel
theorem dX12_weeks_170 : decode cX12_weeks 170 = .ok (.iload 6, 2) := by decide +kernel
theorem dX12_weeks_172 : decode cX12_weeks 172 = .ok (.iaload, 1) := by decide +kernel
theorem dX12_weeks_173 : decode cX12_weeks 173 = .ok (.iastore, 1) := by decide +kernel
theorem dX12_weeks_174 : decode cX12_weeks 174 = .ok (.iinc 6 1, 3) := by decide +kernel
theorem dX12_weeks_177 : decode cX12_weeks 177 = .ok (.goto (-75), 3) := by decide +kernel
theorem dX12_weeks_180 : decode cX12_weeks 180 = .ok (.iinc 5 1, 3) := by decide +kernel
theorem dX12_weeks_183 : decode cX12_weeks 183 = .ok (.goto (-90), 3) := by decide +kernel
theorem dX12_weeks_186 : decode cX12_weeks 186 = .ok (.iconst 0, 1) := by decide +kernel
theorem dX12_weeks_187 : decode cX12_weeks 187 = .ok (.istore 5, 2) := by decide +kernel
theorem dX12_weeks_189 : decode cX12_weeks 189 = .ok (.iconst 0, 1) := by decide +kernel
theorem dX12_weeks_190 : decode cX12_weeks 190 = .ok (.istore 6, 2) := by decide +kernel
theorem dX12_weeks_192 : decode cX12_weeks 192 = .ok (.iload 6, 2) := by decide +kernel
theorem dX12_weeks_194 : decode cX12_weeks 194 = .ok (.aload_n 0, 1) := by decide +kernel
theorem dX12_weeks_195 : decode cX12_weeks 195 = .ok (.getfield 9, 3) := by decide +kernel
theorem dX12_weeks_198 : decode cX12_weeks 198 = .ok (.iconst 1, 1) := by decide +kernel
theorem dX12_weeks_199 : decode cX12_weeks 199 = .ok (.iaload, 1) := by decide +kernel
theorem dX12_weeks_200 : decode cX12_weeks 200 = .ok (.if_icmp .ge 34, 3) := by decide +kernel
theorem dX12_weeks_203 : decode cX12_weeks 203 = .ok (.iload 5, 2) := by decide +kernel
theorem dX12_weeks_205 : decode cX12_weeks 205 = .ok (.aload_n 0, 1) := by decide +kernel
theorem dX12_weeks_206 : decode cX12_weeks 206 = .ok (.aload_n 0, 1) := by decide +kernel
theorem dX12_weeks_207 : decode cX12_weeks 207 = .ok (.getfield 55, 3) := by decide +kernel
theorem dX12_weeks_210 : decode cX12_weeks 210 = .ok (.iload 6, 2) := by decide +kernel
theorem dX12_weeks_212 : decode cX12_weeks 212 = .ok (.iaload, 1) := by decide +kernel
theorem dX12_weeks_213 : decode cX12_weeks 213 = .ok (.iconst 0, 1) := by decide +kernel
theorem dX12_weeks_214 : decode cX12_weeks 214 = .ok (.invokevirtual 119, 3) := by decide +kernel
theorem dX12_weeks_217 : decode cX12_weeks 217 = .ok (.ifCond .ne 7, 3) := by decide +kernel
theorem dX12_weeks_220 : decode cX12_weeks 220 = .ok (.iconst 1, 1) := by decide +kernel
theorem dX12_weeks_221 : decode cX12_weeks 221 = .ok (.goto 4, 3) := by decide +kernel
theorem dX12_weeks_224 : decode cX12_weeks 224 = .ok (.iconst 0, 1) := by decide +kernel
theorem dX12_weeks_225 : decode cX12_weeks 225 = .ok (.iadd, 1) := by decide +kernel
theorem dX12_weeks_226 : decode cX12_weeks 226 = .ok (.istore 5, 2) := by decide +kernel
theorem dX12_weeks_228 : decode cX12_weeks 228 = .ok (.iinc 6 1, 3) := by decide +kernel
theorem dX12_weeks_231 : decode cX12_weeks 231 = .ok (.goto (-39), 3) := by decide +kernel
theorem dX12_weeks_234 : decode cX12_weeks 234 = .ok (.iload 5, 2) := by decide +kernel
theorem dX12_weeks_236 : decode cX12_weeks 236 = .ok (.ireturn, 1) := by decide +kernel
theorem dX12_groupOf_0 : decode cX12_groupOf 0 = .ok (.iconst 0, 1) := by decide +kernel
theorem dX12_groupOf_1 : decode cX12_groupOf 1 = .ok (.istore_n 2, 1) := by decide +kernel
theorem dX12_groupOf_2 : decode cX12_groupOf 2 = .ok (.iconst 0, 1) := by decide +kernel
theorem dX12_groupOf_3 : decode cX12_groupOf 3 = .ok (.istore_n 3, 1) := by decide +kernel
theorem dX12_groupOf_4 : decode cX12_groupOf 4 = .ok (.iload_n 3, 1) := by decide +kernel
theorem dX12_groupOf_5 : decode cX12_groupOf 5 = .ok (.aload_n 0, 1) := by decide +kernel
theorem dX12_groupOf_6 : decode cX12_groupOf 6 = .ok (.getfield 9, 3) := by decide +kernel
theorem dX12_groupOf_9 : decode cX12_groupOf 9 = .ok (.iconst 1, 1) := by decide +kernel
theorem dX12_groupOf_10 : decode cX12_groupOf 10 = .ok (.iaload, 1) := by decide +kernel
theorem dX12_groupOf_11 : decode cX12_groupOf 11 = .ok (.if_icmp .ge 32, 3) := by decide +kernel
theorem dX12_groupOf_14 : decode cX12_groupOf 14 = .ok (.iload_n 2, 1) := by decide +kernel
theorem dX12_groupOf_15 : decode cX12_groupOf 15 = .ok (.aload_n 0, 1) := by decide +kernel
theorem dX12_groupOf_16 : decode cX12_groupOf 16 = .ok (.aload_n 0, 1) := by decide +kernel
theorem dX12_groupOf_17 : decode cX12_groupOf 17 = .ok (.iload_n 3, 1) := by decide +kernel
theorem dX12_groupOf_18 : decode cX12_groupOf 18 = .ok (.iconst 0, 1) := by decide +kernel
theorem dX12_groupOf_19 : decode cX12_groupOf 19 = .ok (.invokevirtual 128, 3) := by decide +kernel
theorem dX12_groupOf_22 : decode cX12_groupOf 22 = .ok (.iconst 0, 1) := by decide +kernel
theorem dX12_groupOf_23 : decode cX12_groupOf 23 = .ok (.invokevirtual 119, 3) := by decide +kernel
theorem dX12_groupOf_26 : decode cX12_groupOf 26 = .ok (.iload_n 1, 1) := by decide +kernel
theorem dX12_groupOf_27 : decode cX12_groupOf 27 = .ok (.if_icmp .ne 7, 3) := by decide +kernel
theorem dX12_groupOf_30 : decode cX12_groupOf 30 = .ok (.iconst 1, 1) := by decide +kernel
theorem dX12_groupOf_31 : decode cX12_groupOf 31 = .ok (.goto 4, 3) := by decide +kernel
theorem dX12_groupOf_34 : decode cX12_groupOf 34 = .ok (.iconst 0, 1) := by decide +kernel
theorem dX12_groupOf_35 : decode cX12_groupOf 35 = .ok (.iadd, 1) := by decide +kernel
theorem dX12_groupOf_36 : decode cX12_groupOf 36 = .ok (.istore_n 2, 1) := by decide +kernel
theorem dX12_groupOf_37 : decode cX12_groupOf 37 = .ok (.iinc 3 1, 3) := by decide +kernel
theorem dX12_groupOf_40 : decode cX12_groupOf 40 = .ok (.goto (-36), 3) := by decide +kernel
theorem dX12_groupOf_43 : decode cX12_groupOf 43 = .ok (.iload_n 2, 1) := by decide +kernel
theorem dX12_groupOf_44 : decode cX12_groupOf 44 = .ok (.ireturn, 1) := by decide +kernel
theorem dX12_groups_0 : decode cX12_groups 0 = .ok (.iload_n 1, 1) := by decide +kernel
theorem dX12_groups_1 : decode cX12_groups 1 = .ok (.i2l, 1) := by decide +kernel
theorem dX12_groups_2 : decode cX12_groups 2 = .ok (.lconst 0, 1) := by decide +kernel
theorem dX12_groups_3 : decode cX12_groups 3 = .ok (.ldc2_w 66, 3) := by decide +kernel
theorem dX12_groups_6 : decode cX12_groups 6 = .ok (.invokestatic 62, 3) := by decide +kernel
theorem dX12_groups_9 : decode cX12_groups 9 = .ok (.ifCond .eq 11, 3) := by decide +kernel
theorem dX12_groups_12 : decode cX12_groups 12 = .ok (.aload_n 0, 1) := by decide +kernel
theorem dX12_groups_13 : decode cX12_groups 13 = .ok (.iload_n 1, 1) := by decide +kernel
theorem dX12_groups_14 : decode cX12_groups 14 = .ok (.invokevirtual 243, 3) := by decide +kernel
theorem dX12_groups_17 : decode cX12_groups 17 = .ok (.goto 4, 3) := by decide +kernel
theorem dX12_groups_20 : decode cX12_groups 20 = .ok (.iconst (-1), 1) := by decide +kernel
theorem dX12_groups_21 : decode cX12_groups 21 = .ok (.ireturn, 1) := by decide +kernel
theorem dX12_greatest_0 : decode cX12_greatest 0 = .ok (.bipush (-4), 2) := by decide +kernel
theorem dX12_greatest_2 : decode cX12_greatest 2 = .ok (.istore_n 1, 1) := by decide +kernel
theorem dX12_greatest_3 : decode cX12_greatest 3 = .ok (.iconst 1, 1) := by decide +kernel
theorem dX12_greatest_4 : decode cX12_greatest 4 = .ok (.istore_n 2, 1) := by decide +kernel
theorem dX12_greatest_5 : decode cX12_greatest 5 = .ok (.iload_n 2, 1) := by decide +kernel
theorem dX12_greatest_6 : decode cX12_greatest 6 = .ok (.bipush 8, 2) := by decide +kernel
theorem dX12_greatest_8 : decode cX12_greatest 8 = .ok (.if_icmp .ge 32, 3) := by decide +kernel
theorem dX12_greatest_11 : decode cX12_greatest 11 = .ok (.aload_n 0, 1) := by decide +kernel
theorem dX12_greatest_12 : decode cX12_greatest 12 = .ok (.iload_n 2, 1) := by decide +kernel
theorem dX12_greatest_13 : decode cX12_greatest 13 = .ok (.invokevirtual 243, 3) := by decide +kernel
theorem dX12_greatest_16 : decode cX12_greatest 16 = .ok (.iload_n 1, 1) := by decide +kernel
theorem dX12_greatest_17 : decode cX12_greatest 17 = .ok (.ifCond .ge 7, 3) := by decide +kernel
theorem dX12_greatest_20 : decode cX12_greatest 20 = .ok (.iconst 0, 1) := by decide +kernel
theorem dX12_greatest_21 : decode cX12_greatest 21 = .ok (.goto 8, 3) := by decide +kernel
theorem dX12_greatest_24 : decode cX12_greatest 24 = .ok (.aload_n 0, 1) := by decide +kernel
theorem dX12_greatest_25 : decode cX12_greatest 25 = .ok (.iload_n 1, 1) := by decide +kernel
theorem dX12_greatest_26 : decode cX12_greatest 26 = .ok (.invokevirtual 243, 3) := by decide +kernel
theorem dX12_greatest_29 : decode cX12_greatest 29 = .ok (.if_icmp .le 5, 3) := by decide +kernel
theorem dX12_greatest_32 : decode cX12_greatest 32 = .ok (.iload_n 2, 1) := by decide +kernel
theorem dX12_greatest_33 : decode cX12_greatest 33 = .ok (.istore_n 1, 1) := by decide +kernel
theorem dX12_greatest_34 : decode cX12_greatest 34 = .ok (.iinc 2 1, 3) := by decide +kernel
theorem dX12_greatest_37 : decode cX12_greatest 37 = .ok (.goto (-32), 3) := by decide +kernel
theorem dX12_greatest_40 : decode cX12_greatest 40 = .ok (.iload_n 1, 1) := by decide +kernel
theorem dX12_greatest_41 : decode cX12_greatest 41 = .ok (.ireturn, 1) := by decide +kernel
theorem dX12_lesson_0 : decode cX12_lesson 0 = .ok (.iload_n 1, 1) := by decide +kernel
theorem dX12_lesson_1 : decode cX12_lesson 1 = .ok (.i2l, 1) := by decide +kernel
theorem dX12_lesson_2 : decode cX12_lesson 2 = .ok (.lconst 1, 1) := by decide +kernel
theorem dX12_lesson_3 : decode cX12_lesson 3 = .ok (.ldc2_w 160, 3) := by decide +kernel
theorem dX12_lesson_6 : decode cX12_lesson 6 = .ok (.invokestatic 62, 3) := by decide +kernel
theorem dX12_lesson_9 : decode cX12_lesson 9 = .ok (.ifCond .ne 5, 3) := by decide +kernel
theorem dX12_lesson_12 : decode cX12_lesson 12 = .ok (.iconst (-1), 1) := by decide +kernel
theorem dX12_lesson_13 : decode cX12_lesson 13 = .ok (.ireturn, 1) := by decide +kernel
theorem dX12_lesson_14 : decode cX12_lesson 14 = .ok (.iconst 0, 1) := by decide +kernel
theorem dX12_lesson_15 : decode cX12_lesson 15 = .ok (.istore_n 2, 1) := by decide +kernel
theorem dX12_lesson_16 : decode cX12_lesson 16 = .ok (.iconst 0, 1) := by decide +kernel
theorem dX12_lesson_17 : decode cX12_lesson 17 = .ok (.istore_n 3, 1) := by decide +kernel
theorem dX12_lesson_18 : decode cX12_lesson 18 = .ok (.iload_n 3, 1) := by decide +kernel
theorem dX12_lesson_19 : decode cX12_lesson 19 = .ok (.sipush 256, 3) := by decide +kernel
theorem dX12_lesson_22 : decode cX12_lesson 22 = .ok (.if_icmp .ge 77, 3) := by decide +kernel
theorem dX12_lesson_25 : decode cX12_lesson 25 = .ok (.iload_n 3, 1) := by decide +kernel
theorem dX12_lesson_26 : decode cX12_lesson 26 = .ok (.invokestatic 209, 3) := by decide +kernel
theorem dX12_lesson_29 : decode cX12_lesson 29 = .ok (.iload_n 1, 1) := by decide +kernel
theorem dX12_lesson_30 : decode cX12_lesson 30 = .ok (.if_icmp .le 6, 3) := by decide +kernel
theorem dX12_lesson_33 : decode cX12_lesson 33 = .ok (.goto 60, 3) := by decide +kernel
theorem dX12_lesson_36 : decode cX12_lesson 36 = .ok (.iconst 0, 1) := by decide +kernel
theorem dX12_lesson_37 : decode cX12_lesson 37 = .ok (.istore 4, 2) := by decide +kernel
theorem dX12_lesson_39 : decode cX12_lesson 39 = .ok (.iconst 1, 1) := by decide +kernel
theorem dX12_lesson_40 : decode cX12_lesson 40 = .ok (.istore 5, 2) := by decide +kernel
theorem dX12_lesson_42 : decode cX12_lesson 42 = .ok (.iload 5, 2) := by decide +kernel
theorem dX12_lesson_44 : decode cX12_lesson 44 = .ok (.bipush 8, 2) := by decide +kernel
theorem dX12_lesson_46 : decode cX12_lesson 46 = .ok (.if_icmp .ge 34, 3) := by decide +kernel
theorem dX12_lesson_49 : decode cX12_lesson 49 = .ok (.iload 4, 2) := by decide +kernel
theorem dX12_lesson_51 : decode cX12_lesson 51 = .ok (.iload_n 3, 1) := by decide +kernel
theorem dX12_lesson_52 : decode cX12_lesson 52 = .ok (.iload 5, 2) := by decide +kernel
theorem dX12_lesson_54 : decode cX12_lesson 54 = .ok (.ishr, 1) := by decide +kernel
theorem dX12_lesson_55 : decode cX12_lesson 55 = .ok (.iconst 1, 1) := by decide +kernel
theorem dX12_lesson_56 : decode cX12_lesson 56 = .ok (.iand, 1) := by decide +kernel
theorem dX12_lesson_57 : decode cX12_lesson 57 = .ok (.iconst 1, 1) := by decide +kernel
theorem dX12_lesson_58 : decode cX12_lesson 58 = .ok (.if_icmp .ne 12, 3) := by decide +kernel
theorem dX12_lesson_61 : decode cX12_lesson 61 = .ok (.aload_n 0, 1) := by decide +kernel
theorem dX12_lesson_62 : decode cX12_lesson 62 = .ok (.iload 5, 2) := by decide +kernel
theorem dX12_lesson_64 : decode cX12_lesson 64 = .ok (.invokevirtual 243, 3) := by decide +kernel
theorem dX12_lesson_67 : decode cX12_lesson 67 = .ok (.goto 4, 3) := by decide +kernel
theorem dX12_lesson_70 : decode cX12_lesson 70 = .ok (.iconst 0, 1) := by decide +kernel
theorem dX12_lesson_71 : decode cX12_lesson 71 = .ok (.iadd, 1) := by decide +kernel
theorem dX12_lesson_72 : decode cX12_lesson 72 = .ok (.istore 4, 2) := by decide +kernel
theorem dX12_lesson_74 : decode cX12_lesson 74 = .ok (.iinc 5 1, 3) := by decide +kernel
theorem dX12_lesson_77 : decode cX12_lesson 77 = .ok (.goto (-35), 3) := by decide +kernel
theorem dX12_lesson_80 : decode cX12_lesson 80 = .ok (.iload 4, 2) := by decide +kernel
theorem dX12_lesson_82 : decode cX12_lesson 82 = .ok (.iload_n 2, 1) := by decide +kernel
theorem dX12_lesson_83 : decode cX12_lesson 83 = .ok (.if_icmp .le 8, 3) := by decide +kernel
theorem dX12_lesson_86 : decode cX12_lesson 86 = .ok (.iload 4, 2) := by decide +kernel
theorem dX12_lesson_88 : decode cX12_lesson 88 = .ok (.goto 4, 3) := by decide +kernel
theorem dX12_lesson_91 : decode cX12_lesson 91 = .ok (.iload_n 2, 1) := by decide +kernel
theorem dX12_lesson_92 : decode cX12_lesson 92 = .ok (.istore_n 2, 1) := by decide +kernel
theorem dX12_lesson_93 : decode cX12_lesson 93 = .ok (.iinc 3 2, 3) := by decide +kernel
theorem dX12_lesson_96 : decode cX12_lesson 96 = .ok (.goto (-78), 3) := by decide +kernel
theorem dX12_lesson_99 : decode cX12_lesson 99 = .ok (.iload_n 2, 1) := by decide +kernel
theorem dX12_lesson_100 : decode cX12_lesson 100 = .ok (.ireturn, 1) := by decide +kernel
theorem dX12_lacks_0 : decode cX12_lacks 0 = .ok (.aload_n 0, 1) := by decide +kernel
theorem dX12_lacks_1 : decode cX12_lacks 1 = .ok (.iload_n 1, 1) := by decide +kernel
theorem dX12_lacks_2 : decode cX12_lacks 2 = .ok (.iload_n 2, 1) := by decide +kernel
theorem dX12_lacks_3 : decode cX12_lacks 3 = .ok (.invokevirtual 246, 3) := by decide +kernel
theorem dX12_lacks_6 : decode cX12_lacks 6 = .ok (.istore_n 3, 1) := by decide +kernel
theorem dX12_lacks_7 : decode cX12_lacks 7 = .ok (.iload_n 3, 1) := by decide +kernel
theorem dX12_lacks_8 : decode cX12_lacks 8 = .ok (.ifCond .ge 7, 3) := by decide +kernel
theorem dX12_lacks_11 : decode cX12_lacks 11 = .ok (.iload_n 3, 1) := by decide +kernel
theorem dX12_lacks_12 : decode cX12_lacks 12 = .ok (.goto 9, 3) := by decide +kernel
theorem dX12_lacks_15 : decode cX12_lacks 15 = .ok (.aload_n 0, 1) := by decide +kernel
theorem dX12_lacks_16 : decode cX12_lacks 16 = .ok (.iload_n 3, 1) := by decide +kernel
theorem dX12_lacks_17 : decode cX12_lacks 17 = .ok (.iconst 0, 1) := by decide +kernel
theorem dX12_lacks_18 : decode cX12_lacks 18 = .ok (.invokevirtual 119, 3) := by decide +kernel
theorem dX12_lacks_21 : decode cX12_lacks 21 = .ok (.ireturn, 1) := by decide +kernel
theorem dX12_copied_0 : decode cX12_copied 0 = .ok (.iload 4, 2) := by decide +kernel
theorem dX12_copied_2 : decode cX12_copied 2 = .ok (.i2l, 1) := by decide +kernel
theorem dX12_copied_3 : decode cX12_copied 3 = .ok (.lconst 0, 1) := by decide +kernel
theorem dX12_copied_4 : decode cX12_copied 4 = .ok (.lconst 1, 1) := by decide +kernel
theorem dX12_copied_5 : decode cX12_copied 5 = .ok (.invokestatic 62, 3) := by decide +kernel
theorem dX12_copied_8 : decode cX12_copied 8 = .ok (.ifCond .ne 5, 3) := by decide +kernel
theorem dX12_copied_11 : decode cX12_copied 11 = .ok (.iconst (-1), 1) := by decide +kernel
theorem dX12_copied_12 : decode cX12_copied 12 = .ok (.ireturn, 1) := by decide +kernel
theorem dX12_copied_13 : decode cX12_copied 13 = .ok (.aload_n 0, 1) := by decide +kernel
theorem dX12_copied_14 : decode cX12_copied 14 = .ok (.iload_n 1, 1) := by decide +kernel
theorem dX12_copied_15 : decode cX12_copied 15 = .ok (.invokevirtual 175, 3) := by decide +kernel
theorem dX12_copied_18 : decode cX12_copied 18 = .ok (.istore 5, 2) := by decide +kernel
theorem dX12_copied_20 : decode cX12_copied 20 = .ok (.iload 5, 2) := by decide +kernel
theorem dX12_copied_22 : decode cX12_copied 22 = .ok (.ifCond .ne 11, 3) := by decide +kernel
theorem dX12_copied_25 : decode cX12_copied 25 = .ok (.aload_n 0, 1) := by decide +kernel
theorem dX12_copied_26 : decode cX12_copied 26 = .ok (.iload_n 1, 1) := by decide +kernel
theorem dX12_copied_27 : decode cX12_copied 27 = .ok (.iload_n 2, 1) := by decide +kernel
theorem dX12_copied_28 : decode cX12_copied 28 = .ok (.invokevirtual 178, 3) := by decide +kernel
theorem dX12_copied_31 : decode cX12_copied 31 = .ok (.istore 5, 2) := by decide +kernel
theorem dX12_copied_33 : decode cX12_copied 33 = .ok (.iload 5, 2) := by decide +kernel
theorem dX12_copied_35 : decode cX12_copied 35 = .ok (.ifCond .ne 11, 3) := by decide +kernel
theorem dX12_copied_38 : decode cX12_copied 38 = .ok (.aload_n 0, 1) := by decide +kernel
theorem dX12_copied_39 : decode cX12_copied 39 = .ok (.iload_n 1, 1) := by decide +kernel
theorem dX12_copied_40 : decode cX12_copied 40 = .ok (.iload_n 3, 1) := by decide +kernel
theorem dX12_copied_41 : decode cX12_copied 41 = .ok (.invokevirtual 178, 3) := by decide +kernel
theorem dX12_copied_44 : decode cX12_copied 44 = .ok (.istore 5, 2) := by decide +kernel
theorem dX12_copied_46 : decode cX12_copied 46 = .ok (.iload 5, 2) := by decide +kernel
theorem dX12_copied_48 : decode cX12_copied 48 = .ok (.ifCond .eq 6, 3) := by decide +kernel
theorem dX12_copied_51 : decode cX12_copied 51 = .ok (.iload 5, 2) := by decide +kernel
theorem dX12_copied_53 : decode cX12_copied 53 = .ok (.ireturn, 1) := by decide +kernel
theorem dX12_copied_54 : decode cX12_copied 54 = .ok (.iconst 0, 1) := by decide +kernel
theorem dX12_copied_55 : decode cX12_copied 55 = .ok (.istore 6, 2) := by decide +kernel
theorem dX12_copied_57 : decode cX12_copied 57 = .ok (.iconst 0, 1) := by decide +kernel
theorem dX12_copied_58 : decode cX12_copied 58 = .ok (.istore 7, 2) := by decide +kernel
theorem dX12_copied_60 : decode cX12_copied 60 = .ok (.iload 7, 2) := by decide +kernel
theorem dX12_copied_62 : decode cX12_copied 62 = .ok (.aload_n 0, 1) := by decide +kernel
theorem dX12_copied_63 : decode cX12_copied 63 = .ok (.iload_n 1, 1) := by decide +kernel
theorem dX12_copied_64 : decode cX12_copied 64 = .ok (.invokevirtual 171, 3) := by decide +kernel
theorem dX12_copied_67 : decode cX12_copied 67 = .ok (.if_icmp .ge 105, 3) := by decide +kernel
theorem dX12_copied_70 : decode cX12_copied 70 = .ok (.aload_n 0, 1) := by decide +kernel
theorem dX12_copied_71 : decode cX12_copied 71 = .ok (.iload_n 1, 1) := by decide +kernel
theorem dX12_copied_72 : decode cX12_copied 72 = .ok (.iload 7, 2) := by decide +kernel
theorem dX12_copied_74 : decode cX12_copied 74 = .ok (.invokevirtual 181, 3) := by decide +kernel
theorem dX12_copied_77 : decode cX12_copied 77 = .ok (.istore 8, 2) := by decide +kernel
theorem dX12_copied_79 : decode cX12_copied 79 = .ok (.aload_n 0, 1) := by decide +kernel
theorem dX12_copied_80 : decode cX12_copied 80 = .ok (.iload_n 1, 1) := by decide +kernel
theorem dX12_copied_81 : decode cX12_copied 81 = .ok (.iload 7, 2) := by decide +kernel
theorem dX12_copied_83 : decode cX12_copied 83 = .ok (.invokevirtual 184, 3) := by decide +kernel
theorem dX12_copied_86 : decode cX12_copied 86 = .ok (.istore 9, 2) := by decide +kernel
theorem dX12_copied_88 : decode cX12_copied 88 = .ok (.aload_n 0, 1) := by decide +kernel
theorem dX12_copied_89 : decode cX12_copied 89 = .ok (.getfield 28, 3) := by decide +kernel
theorem dX12_copied_92 : decode cX12_copied 92 = .ok (.bipush 100, 2) := by decide +kernel
theorem dX12_copied_94 : decode cX12_copied 94 = .ok (.iload_n 2, 1) := by decide +kernel
theorem dX12_copied_95 : decode cX12_copied 95 = .ok (.imul, 1) := by decide +kernel
theorem dX12_copied_96 : decode cX12_copied 96 = .ok (.iload 7, 2) := by decide +kernel
theorem dX12_copied_98 : decode cX12_copied 98 = .ok (.iadd, 1) := by decide +kernel
theorem dX12_copied_99 : decode cX12_copied 99 = .ok (.iaload, 1) := by decide +kernel
theorem dX12_copied_100 : decode cX12_copied 100 = .ok (.istore 10, 2) := by decide +kernel
theorem dX12_copied_102 : decode cX12_copied 102 = .ok (.iload 10, 2) := by decide +kernel
theorem dX12_copied_104 : decode cX12_copied 104 = .ok (.iconst (-1), 1) := by decide +kernel
theorem dX12_copied_105 : decode cX12_copied 105 = .ok (.if_icmp .eq 61, 3) := by decide +kernel
theorem dX12_copied_108 : decode cX12_copied 108 = .ok (.iload 10, 2) := by decide +kernel
theorem dX12_copied_110 : decode cX12_copied 110 = .ok (.aload_n 0, 1) := by decide +kernel
theorem dX12_copied_111 : decode cX12_copied 111 = .ok (.getfield 28, 3) := by decide +kernel
theorem dX12_copied_114 : decode cX12_copied 114 = .ok (.bipush 100, 2) := by decide +kernel
theorem dX12_copied_116 : decode cX12_copied 116 = .ok (.iload_n 3, 1) := by decide +kernel
theorem dX12_copied_117 : decode cX12_copied 117 = .ok (.imul, 1) := by decide +kernel
theorem dX12_copied_118 : decode cX12_copied 118 = .ok (.iload 7, 2) := by decide +kernel
theorem dX12_copied_120 : decode cX12_copied 120 = .ok (.iadd, 1) := by decide +kernel
theorem dX12_copied_121 : decode cX12_copied 121 = .ok (.iaload, 1) := by decide +kernel
theorem dX12_copied_122 : decode cX12_copied 122 = .ok (.if_icmp .ne 44, 3) := by decide +kernel
theorem dX12_copied_125 : decode cX12_copied 125 = .ok (.iload 10, 2) := by decide +kernel
theorem dX12_copied_127 : decode cX12_copied 127 = .ok (.iload 8, 2) := by decide +kernel
theorem dX12_copied_129 : decode cX12_copied 129 = .ok (.iload 9, 2) := by decide +kernel
theorem dX12_copied_131 : decode cX12_copied 131 = .ok (.isub, 1) := by decide +kernel
theorem dX12_copied_132 : decode cX12_copied 132 = .ok (.if_icmp .ne 6, 3) := by decide +kernel
theorem dX12_copied_135 : decode cX12_copied 135 = .ok (.goto 31, 3) := by decide +kernel
theorem dX12_copied_138 : decode cX12_copied 138 = .ok (.iload 6, 2) := by decide +kernel
theorem dX12_copied_140 : decode cX12_copied 140 = .ok (.iload 4, 2) := by decide +kernel
theorem dX12_copied_142 : decode cX12_copied 142 = .ok (.ifCond .eq 16, 3) := by decide +kernel
theorem dX12_copied_145 : decode cX12_copied 145 = .ok (.aload_n 0, 1) := by decide +kernel
theorem dX12_copied_146 : decode cX12_copied 146 = .ok (.iload 8, 2) := by decide +kernel
theorem dX12_copied_148 : decode cX12_copied 148 = .ok (.iload 9, 2) := by decide +kernel
theorem dX12_copied_150 : decode cX12_copied 150 = .ok (.iload 10, 2) := by decide +kernel
theorem dX12_copied_152 : decode cX12_copied 152 = .ok (.invokevirtual 162, 3) := by decide +kernel
theorem dX12_copied_155 : decode cX12_copied 155 = .ok (.ifCond .ne 7, 3) := by decide +kernel
theorem dX12_copied_158 : decode cX12_copied 158 = .ok (.iconst 1, 1) := by decide +kernel
theorem dX12_copied_159 : decode cX12_copied 159 = .ok (.goto 4, 3) := by decide +kernel
theorem dX12_copied_162 : decode cX12_copied 162 = .ok (.iconst 0, 1) := by decide +kernel
theorem dX12_copied_163 : decode cX12_copied 163 = .ok (.iadd, 1) := by decide +kernel
theorem dX12_copied_164 : decode cX12_copied 164 = .ok (.istore 6, 2) := by decide +kernel
theorem dX12_copied_166 : decode cX12_copied 166 = .ok (.iinc 7 1, 3) := by decide +kernel
theorem dX12_copied_169 : decode cX12_copied 169 = .ok (.goto (-109), 3) := by decide +kernel
theorem dX12_copied_172 : decode cX12_copied 172 = .ok (.iload 6, 2) := by decide +kernel
theorem dX12_copied_174 : decode cX12_copied 174 = .ok (.ireturn, 1) := by decide +kernel
theorem dX12_leastOf_0 : decode cX12_leastOf 0 = .ok (.aload_n 0, 1) := by decide +kernel
theorem dX12_leastOf_1 : decode cX12_leastOf 1 = .ok (.getfield 22, 3) := by decide +kernel
theorem dX12_leastOf_4 : decode cX12_leastOf 4 = .ok (.iload_n 1, 1) := by decide +kernel
theorem dX12_leastOf_5 : decode cX12_leastOf 5 = .ok (.iaload, 1) := by decide +kernel
theorem dX12_leastOf_6 : decode cX12_leastOf 6 = .ok (.ifCond .ne 8, 3) := by decide +kernel
theorem dX12_leastOf_9 : decode cX12_leastOf 9 = .ok (.bipush (-128), 2) := by decide +kernel
theorem dX12_leastOf_11 : decode cX12_leastOf 11 = .ok (.goto 21, 3) := by decide +kernel
theorem dX12_leastOf_14 : decode cX12_leastOf 14 = .ok (.aload_n 0, 1) := by decide +kernel
theorem dX12_leastOf_15 : decode cX12_leastOf 15 = .ok (.getfield 22, 3) := by decide +kernel
theorem dX12_leastOf_18 : decode cX12_leastOf 18 = .ok (.iload_n 1, 1) := by decide +kernel
theorem dX12_leastOf_19 : decode cX12_leastOf 19 = .ok (.iaload, 1) := by decide +kernel
theorem dX12_leastOf_20 : decode cX12_leastOf 20 = .ok (.iconst 1, 1) := by decide +kernel
theorem dX12_leastOf_21 : decode cX12_leastOf 21 = .ok (.if_icmp .ne 9, 3) := by decide +kernel
theorem dX12_leastOf_24 : decode cX12_leastOf 24 = .ok (.sipush (-32768), 3) := by decide +kernel
theorem dX12_leastOf_27 : decode cX12_leastOf 27 = .ok (.goto 5, 3) := by decide +kernel
theorem dX12_leastOf_30 : decode cX12_leastOf 30 = .ok (.ldc 249, 2) := by decide +kernel
theorem dX12_leastOf_32 : decode cX12_leastOf 32 = .ok (.ireturn, 1) := by decide +kernel
theorem dX12_judge_0 : decode cX12_judge 0 = .ok (.aload_n 0, 1) := by decide +kernel
theorem dX12_judge_1 : decode cX12_judge 1 = .ok (.iload_n 1, 1) := by decide +kernel
theorem dX12_judge_2 : decode cX12_judge 2 = .ok (.invokevirtual 114, 3) := by decide +kernel
theorem dX12_judge_5 : decode cX12_judge 5 = .ok (.ifCond .eq 10, 3) := by decide +kernel
theorem dX12_judge_8 : decode cX12_judge 8 = .ok (.iload_n 2, 1) := by decide +kernel
theorem dX12_judge_9 : decode cX12_judge 9 = .ok (.invokestatic 101, 3) := by decide +kernel
theorem dX12_judge_12 : decode cX12_judge 12 = .ok (.ifCond .ne 5, 3) := by decide +kernel
theorem dX12_judge_15 : decode cX12_judge 15 = .ok (.iconst (-1), 1) := by decide +kernel
theorem dX12_judge_16 : decode cX12_judge 16 = .ok (.ireturn, 1) := by decide +kernel
theorem dX12_judge_17 : decode cX12_judge 17 = .ok (.aload_n 0, 1) := by decide +kernel
theorem dX12_judge_18 : decode cX12_judge 18 = .ok (.iload_n 2, 1) := by decide +kernel
theorem dX12_judge_19 : decode cX12_judge 19 = .ok (.iconst (-1), 1) := by decide +kernel
theorem dX12_judge_20 : decode cX12_judge 20 = .ok (.invokevirtual 104, 3) := by decide +kernel
theorem dX12_judge_23 : decode cX12_judge 23 = .ok (.istore_n 3, 1) := by decide +kernel
theorem dX12_judge_24 : decode cX12_judge 24 = .ok (.iload_n 3, 1) := by decide +kernel
theorem dX12_judge_25 : decode cX12_judge 25 = .ok (.ifCond .eq 5, 3) := by decide +kernel
theorem dX12_judge_28 : decode cX12_judge 28 = .ok (.iload_n 3, 1) := by decide +kernel
theorem dX12_judge_29 : decode cX12_judge 29 = .ok (.ireturn, 1) := by decide +kernel
theorem dX12_judge_30 : decode cX12_judge 30 = .ok (.aload_n 0, 1) := by decide +kernel
theorem dX12_judge_31 : decode cX12_judge 31 = .ok (.getfield 25, 3) := by decide +kernel
theorem dX12_judge_34 : decode cX12_judge 34 = .ok (.iload_n 2, 1) := by decide +kernel
theorem dX12_judge_35 : decode cX12_judge 35 = .ok (.iaload, 1) := by decide +kernel
theorem dX12_judge_36 : decode cX12_judge 36 = .ok (.iconst 2, 1) := by decide +kernel
theorem dX12_judge_37 : decode cX12_judge 37 = .ok (.if_icmp .lt 29, 3) := by decide +kernel
theorem dX12_judge_40 : decode cX12_judge 40 = .ok (.aload_n 0, 1) := by decide +kernel
theorem dX12_judge_41 : decode cX12_judge 41 = .ok (.getfield 28, 3) := by decide +kernel
theorem dX12_judge_44 : decode cX12_judge 44 = .ok (.bipush 100, 2) := by decide +kernel
theorem dX12_judge_46 : decode cX12_judge 46 = .ok (.iload_n 2, 1) := by decide +kernel
theorem dX12_judge_47 : decode cX12_judge 47 = .ok (.imul, 1) := by decide +kernel
theorem dX12_judge_48 : decode cX12_judge 48 = .ok (.iaload, 1) := by decide +kernel
theorem dX12_judge_49 : decode cX12_judge 49 = .ok (.aload_n 0, 1) := by decide +kernel
theorem dX12_judge_50 : decode cX12_judge 50 = .ok (.getfield 28, 3) := by decide +kernel
theorem dX12_judge_53 : decode cX12_judge 53 = .ok (.bipush 100, 2) := by decide +kernel
theorem dX12_judge_55 : decode cX12_judge 55 = .ok (.iload_n 2, 1) := by decide +kernel
theorem dX12_judge_56 : decode cX12_judge 56 = .ok (.imul, 1) := by decide +kernel
theorem dX12_judge_57 : decode cX12_judge 57 = .ok (.iconst 1, 1) := by decide +kernel
theorem dX12_judge_58 : decode cX12_judge 58 = .ok (.iadd, 1) := by decide +kernel
theorem dX12_judge_59 : decode cX12_judge 59 = .ok (.iaload, 1) := by decide +kernel
theorem dX12_judge_60 : decode cX12_judge 60 = .ok (.invokestatic 153, 3) := by decide +kernel
theorem dX12_judge_63 : decode cX12_judge 63 = .ok (.ifCond .ne 6, 3) := by decide +kernel
theorem dX12_judge_66 : decode cX12_judge 66 = .ok (.bipush (-13), 2) := by decide +kernel
theorem dX12_judge_68 : decode cX12_judge 68 = .ok (.ireturn, 1) := by decide +kernel
theorem dX12_judge_69 : decode cX12_judge 69 = .ok (.aload_n 0, 1) := by decide +kernel
theorem dX12_judge_70 : decode cX12_judge 70 = .ok (.iload_n 1, 1) := by decide +kernel
theorem dX12_judge_71 : decode cX12_judge 71 = .ok (.aload_n 0, 1) := by decide +kernel
theorem dX12_judge_72 : decode cX12_judge 72 = .ok (.getfield 28, 3) := by decide +kernel
theorem dX12_judge_75 : decode cX12_judge 75 = .ok (.bipush 100, 2) := by decide +kernel
theorem dX12_judge_77 : decode cX12_judge 77 = .ok (.iload_n 2, 1) := by decide +kernel
theorem dX12_judge_78 : decode cX12_judge 78 = .ok (.imul, 1) := by decide +kernel
theorem dX12_judge_79 : decode cX12_judge 79 = .ok (.iaload, 1) := by decide +kernel
theorem dX12_judge_80 : decode cX12_judge 80 = .ok (.aload_n 0, 1) := by decide +kernel
theorem dX12_judge_81 : decode cX12_judge 81 = .ok (.getfield 28, 3) := by decide +kernel
theorem dX12_judge_84 : decode cX12_judge 84 = .ok (.bipush 100, 2) := by decide +kernel
theorem dX12_judge_86 : decode cX12_judge 86 = .ok (.iload_n 2, 1) := by decide +kernel
theorem dX12_judge_87 : decode cX12_judge 87 = .ok (.imul, 1) := by decide +kernel
theorem dX12_judge_88 : decode cX12_judge 88 = .ok (.iconst 1, 1) := by decide +kernel
theorem dX12_judge_89 : decode cX12_judge 89 = .ok (.iadd, 1) := by decide +kernel
theorem dX12_judge_90 : decode cX12_judge 90 = .ok (.iaload, 1) := by decide +kernel
theorem dX12_judge_91 : decode cX12_judge 91 = .ok (.invokevirtual 157, 3) := by decide +kernel
theorem dX12_judge_94 : decode cX12_judge 94 = .ok (.pop, 1) := by decide +kernel
theorem dX12_judge_95 : decode cX12_judge 95 = .ok (.iconst 2, 1) := by decide +kernel
theorem dX12_judge_96 : decode cX12_judge 96 = .ok (.istore 4, 2) := by decide +kernel
theorem dX12_judge_98 : decode cX12_judge 98 = .ok (.iload 4, 2) := by decide +kernel
theorem dX12_judge_100 : decode cX12_judge 100 = .ok (.aload_n 0, 1) := by decide +kernel
theorem dX12_judge_101 : decode cX12_judge 101 = .ok (.getfield 25, 3) := by decide +kernel
theorem dX12_judge_104 : decode cX12_judge 104 = .ok (.iload_n 2, 1) := by decide +kernel
theorem dX12_judge_105 : decode cX12_judge 105 = .ok (.iaload, 1) := by decide +kernel
theorem dX12_judge_106 : decode cX12_judge 106 = .ok (.if_icmp .ge 56, 3) := by decide +kernel
theorem dX12_judge_109 : decode cX12_judge 109 = .ok (.aload_n 0, 1) := by decide +kernel
theorem dX12_judge_110 : decode cX12_judge 110 = .ok (.getfield 28, 3) := by decide +kernel
theorem dX12_judge_113 : decode cX12_judge 113 = .ok (.bipush 100, 2) := by decide +kernel
theorem dX12_judge_115 : decode cX12_judge 115 = .ok (.iload_n 2, 1) := by decide +kernel
theorem dX12_judge_116 : decode cX12_judge 116 = .ok (.imul, 1) := by decide +kernel
theorem dX12_judge_117 : decode cX12_judge 117 = .ok (.iload 4, 2) := by decide +kernel
theorem dX12_judge_119 : decode cX12_judge 119 = .ok (.iadd, 1) := by decide +kernel
theorem dX12_judge_120 : decode cX12_judge 120 = .ok (.iaload, 1) := by decide +kernel
theorem dX12_judge_121 : decode cX12_judge 121 = .ok (.istore 5, 2) := by decide +kernel
theorem dX12_judge_123 : decode cX12_judge 123 = .ok (.iload 5, 2) := by decide +kernel
theorem dX12_judge_125 : decode cX12_judge 125 = .ok (.aload_n 0, 1) := by decide +kernel
theorem dX12_judge_126 : decode cX12_judge 126 = .ok (.iload_n 2, 1) := by decide +kernel
theorem dX12_judge_127 : decode cX12_judge 127 = .ok (.invokevirtual 250, 3) := by decide +kernel
theorem dX12_judge_130 : decode cX12_judge 130 = .ok (.if_icmp .eq 26, 3) := by decide +kernel
theorem dX12_judge_133 : decode cX12_judge 133 = .ok (.iload 4, 2) := by decide +kernel
theorem dX12_judge_135 : decode cX12_judge 135 = .ok (.iconst 5, 1) := by decide +kernel
theorem dX12_judge_136 : decode cX12_judge 136 = .ok (.if_icmp .gt 17, 3) := by decide +kernel
theorem dX12_judge_139 : decode cX12_judge 139 = .ok (.iload 5, 2) := by decide +kernel
theorem dX12_judge_141 : decode cX12_judge 141 = .ok (.aload_n 0, 1) := by decide +kernel
theorem dX12_judge_142 : decode cX12_judge 142 = .ok (.getfield 46, 3) := by decide +kernel
theorem dX12_judge_145 : decode cX12_judge 145 = .ok (.iload 4, 2) := by decide +kernel
theorem dX12_judge_147 : decode cX12_judge 147 = .ok (.iconst 2, 1) := by decide +kernel
theorem dX12_judge_148 : decode cX12_judge 148 = .ok (.isub, 1) := by decide +kernel
theorem dX12_judge_149 : decode cX12_judge 149 = .ok (.iaload, 1) := by decide +kernel
theorem dX12_judge_150 : decode cX12_judge 150 = .ok (.if_icmp .eq 6, 3) := by decide +kernel
theorem dX12_judge_153 : decode cX12_judge 153 = .ok (.iload 4, 2) := by decide +kernel
theorem dX12_judge_155 : decode cX12_judge 155 = .ok (.ireturn, 1) := by decide +kernel
theorem dX12_judge_156 : decode cX12_judge 156 = .ok (.iinc 4 1, 3) := by decide +kernel
theorem dX12_judge_159 : decode cX12_judge 159 = .ok (.goto (-61), 3) := by decide +kernel
theorem dX12_judge_162 : decode cX12_judge 162 = .ok (.bipush (-4), 2) := by decide +kernel
theorem dX12_judge_164 : decode cX12_judge 164 = .ok (.ireturn, 1) := by decide +kernel
theorem dX12_image_0 : decode cX12_image 0 = .ok (.iconst 0, 1) := by decide +kernel
theorem dX12_image_1 : decode cX12_image 1 = .ok (.istore_n 1, 1) := by decide +kernel
theorem dX12_image_2 : decode cX12_image 2 = .ok (.iload_n 1, 1) := by decide +kernel
theorem dX12_image_3 : decode cX12_image 3 = .ok (.sipush 156, 3) := by decide +kernel
theorem dX12_image_6 : decode cX12_image 6 = .ok (.if_icmp .ge 21, 3) := by decide +kernel
theorem dX12_image_9 : decode cX12_image 9 = .ok (.aload_n 0, 1) := by decide +kernel
theorem dX12_image_10 : decode cX12_image 10 = .ok (.getfield 13, 3) := by decide +kernel
theorem dX12_image_13 : decode cX12_image 13 = .ok (.iload_n 1, 1) := by decide +kernel
theorem dX12_image_14 : decode cX12_image 14 = .ok (.aload_n 0, 1) := by decide +kernel
theorem dX12_image_15 : decode cX12_image 15 = .ok (.getfield 9, 3) := by decide +kernel
theorem dX12_image_18 : decode cX12_image 18 = .ok (.iload_n 1, 1) := by decide +kernel
theorem dX12_image_19 : decode cX12_image 19 = .ok (.iaload, 1) := by decide +kernel
theorem dX12_image_20 : decode cX12_image 20 = .ok (.iastore, 1) := by decide +kernel
theorem dX12_image_21 : decode cX12_image 21 = .ok (.iinc 1 1, 3) := by decide +kernel
theorem dX12_image_24 : decode cX12_image 24 = .ok (.goto (-22), 3) := by decide +kernel
theorem dX12_image_27 : decode cX12_image 27 = .ok (.aload_n 0, 1) := by decide +kernel
theorem dX12_image_28 : decode cX12_image 28 = .ok (.iconst 1, 1) := by decide +kernel
theorem dX12_image_29 : decode cX12_image 29 = .ok (.putfield 253, 3) := by decide +kernel
theorem dX12_image_32 : decode cX12_image 32 = .ok (.aload_n 0, 1) := by decide +kernel
theorem dX12_image_33 : decode cX12_image 33 = .ok (.getfield 9, 3) := by decide +kernel
theorem dX12_image_36 : decode cX12_image 36 = .ok (.iconst 1, 1) := by decide +kernel
theorem dX12_image_37 : decode cX12_image 37 = .ok (.iaload, 1) := by decide +kernel
theorem dX12_image_38 : decode cX12_image 38 = .ok (.ireturn, 1) := by decide +kernel
theorem dX12_restore_0 : decode cX12_restore 0 = .ok (.aload_n 0, 1) := by decide +kernel
theorem dX12_restore_1 : decode cX12_restore 1 = .ok (.getfield 253, 3) := by decide +kernel
theorem dX12_restore_4 : decode cX12_restore 4 = .ok (.ifCond .ne 6, 3) := by decide +kernel
theorem dX12_restore_7 : decode cX12_restore 7 = .ok (.bipush (-3), 2) := by decide +kernel
theorem dX12_restore_9 : decode cX12_restore 9 = .ok (.ireturn, 1) := by decide +kernel
theorem dX12_restore_10 : decode cX12_restore 10 = .ok (.iconst 0, 1) := by decide +kernel
theorem dX12_restore_11 : decode cX12_restore 11 = .ok (.istore_n 1, 1) := by decide +kernel
theorem dX12_restore_12 : decode cX12_restore 12 = .ok (.iload_n 1, 1) := by decide +kernel
theorem dX12_restore_13 : decode cX12_restore 13 = .ok (.sipush 156, 3) := by decide +kernel
theorem dX12_restore_16 : decode cX12_restore 16 = .ok (.if_icmp .ge 21, 3) := by decide +kernel
theorem dX12_restore_19 : decode cX12_restore 19 = .ok (.aload_n 0, 1) := by decide +kernel
theorem dX12_restore_20 : decode cX12_restore 20 = .ok (.getfield 9, 3) := by decide +kernel
theorem dX12_restore_23 : decode cX12_restore 23 = .ok (.iload_n 1, 1) := by decide +kernel
theorem dX12_restore_24 : decode cX12_restore 24 = .ok (.aload_n 0, 1) := by decide +kernel
theorem dX12_restore_25 : decode cX12_restore 25 = .ok (.getfield 13, 3) := by decide +kernel
theorem dX12_restore_28 : decode cX12_restore 28 = .ok (.iload_n 1, 1) := by decide +kernel
theorem dX12_restore_29 : decode cX12_restore 29 = .ok (.iaload, 1) := by decide +kernel
theorem dX12_restore_30 : decode cX12_restore 30 = .ok (.iastore, 1) := by decide +kernel
theorem dX12_restore_31 : decode cX12_restore 31 = .ok (.iinc 1 1, 3) := by decide +kernel
theorem dX12_restore_34 : decode cX12_restore 34 = .ok (.goto (-22), 3) := by decide +kernel
theorem dX12_restore_37 : decode cX12_restore 37 = .ok (.aload_n 0, 1) := by decide +kernel
theorem dX12_restore_38 : decode cX12_restore 38 = .ok (.getfield 9, 3) := by decide +kernel
theorem dX12_restore_41 : decode cX12_restore 41 = .ok (.iconst 1, 1) := by decide +kernel
theorem dX12_restore_42 : decode cX12_restore 42 = .ok (.iaload, 1) := by decide +kernel
theorem dX12_restore_43 : decode cX12_restore 43 = .ok (.ireturn, 1) := by decide +kernel
theorem dX12_count_0 : decode cX12_count 0 = .ok (.iconst 0, 1) := by decide +kernel
theorem dX12_count_1 : decode cX12_count 1 = .ok (.istore_n 2, 1) := by decide +kernel
theorem dX12_count_2 : decode cX12_count 2 = .ok (.iload_n 1, 1) := by decide +kernel
theorem dX12_count_3 : decode cX12_count 3 = .ok (.tableswitch 174 0 5 #[37, 37, 44, 44, 95, 138], 37) := by decide +kernel
theorem dX12_count_40 : decode cX12_count 40 = .ok (.aload_n 0, 1) := by decide +kernel
theorem dX12_count_41 : decode cX12_count 41 = .ok (.getfield 9, 3) := by decide +kernel
theorem dX12_count_44 : decode cX12_count 44 = .ok (.iload_n 1, 1) := by decide +kernel
theorem dX12_count_45 : decode cX12_count 45 = .ok (.iaload, 1) := by decide +kernel
theorem dX12_count_46 : decode cX12_count 46 = .ok (.ireturn, 1) := by decide +kernel
theorem dX12_count_47 : decode cX12_count 47 = .ok (.iconst 0, 1) := by decide +kernel
theorem dX12_count_48 : decode cX12_count 48 = .ok (.istore_n 3, 1) := by decide +kernel
theorem dX12_count_49 : decode cX12_count 49 = .ok (.iload_n 3, 1) := by decide +kernel
theorem dX12_count_50 : decode cX12_count 50 = .ok (.aload_n 0, 1) := by decide +kernel
theorem dX12_count_51 : decode cX12_count 51 = .ok (.getfield 9, 3) := by decide +kernel
theorem dX12_count_54 : decode cX12_count 54 = .ok (.iconst 0, 1) := by decide +kernel
theorem dX12_count_55 : decode cX12_count 55 = .ok (.iaload, 1) := by decide +kernel
theorem dX12_count_56 : decode cX12_count 56 = .ok (.if_icmp .ge 40, 3) := by decide +kernel
theorem dX12_count_59 : decode cX12_count 59 = .ok (.iload_n 2, 1) := by decide +kernel
theorem dX12_count_60 : decode cX12_count 60 = .ok (.iload_n 1, 1) := by decide +kernel
theorem dX12_count_61 : decode cX12_count 61 = .ok (.iconst 3, 1) := by decide +kernel
theorem dX12_count_62 : decode cX12_count 62 = .ok (.if_icmp .ne 12, 3) := by decide +kernel
theorem dX12_count_65 : decode cX12_count 65 = .ok (.aload_n 0, 1) := by decide +kernel
theorem dX12_count_66 : decode cX12_count 66 = .ok (.iload_n 3, 1) := by decide +kernel
theorem dX12_count_67 : decode cX12_count 67 = .ok (.iconst 2, 1) := by decide +kernel
theorem dX12_count_68 : decode cX12_count 68 = .ok (.invokevirtual 119, 3) := by decide +kernel
theorem dX12_count_71 : decode cX12_count 71 = .ok (.goto 17, 3) := by decide +kernel
theorem dX12_count_74 : decode cX12_count 74 = .ok (.aload_n 0, 1) := by decide +kernel
theorem dX12_count_75 : decode cX12_count 75 = .ok (.iload_n 3, 1) := by decide +kernel
theorem dX12_count_76 : decode cX12_count 76 = .ok (.iconst 0, 1) := by decide +kernel
theorem dX12_count_77 : decode cX12_count 77 = .ok (.invokevirtual 119, 3) := by decide +kernel
theorem dX12_count_80 : decode cX12_count 80 = .ok (.ifCond .ne 7, 3) := by decide +kernel
theorem dX12_count_83 : decode cX12_count 83 = .ok (.iconst 1, 1) := by decide +kernel
theorem dX12_count_84 : decode cX12_count 84 = .ok (.goto 4, 3) := by decide +kernel
theorem dX12_count_87 : decode cX12_count 87 = .ok (.iconst 0, 1) := by decide +kernel
theorem dX12_count_88 : decode cX12_count 88 = .ok (.iadd, 1) := by decide +kernel
theorem dX12_count_89 : decode cX12_count 89 = .ok (.istore_n 2, 1) := by decide +kernel
theorem dX12_count_90 : decode cX12_count 90 = .ok (.iinc 3 1, 3) := by decide +kernel
theorem dX12_count_93 : decode cX12_count 93 = .ok (.goto (-44), 3) := by decide +kernel
theorem dX12_count_96 : decode cX12_count 96 = .ok (.iload_n 2, 1) := by decide +kernel
theorem dX12_count_97 : decode cX12_count 97 = .ok (.ireturn, 1) := by decide +kernel
theorem dX12_count_98 : decode cX12_count 98 = .ok (.iconst 0, 1) := by decide +kernel
theorem dX12_count_99 : decode cX12_count 99 = .ok (.istore_n 3, 1) := by decide +kernel
theorem dX12_count_100 : decode cX12_count 100 = .ok (.iload_n 3, 1) := by decide +kernel
theorem dX12_count_101 : decode cX12_count 101 = .ok (.aload_n 0, 1) := by decide +kernel
theorem dX12_count_102 : decode cX12_count 102 = .ok (.getfield 9, 3) := by decide +kernel
theorem dX12_count_105 : decode cX12_count 105 = .ok (.iconst 1, 1) := by decide +kernel
theorem dX12_count_106 : decode cX12_count 106 = .ok (.iaload, 1) := by decide +kernel
theorem dX12_count_107 : decode cX12_count 107 = .ok (.if_icmp .ge 32, 3) := by decide +kernel
theorem dX12_count_110 : decode cX12_count 110 = .ok (.iload_n 2, 1) := by decide +kernel
theorem dX12_count_111 : decode cX12_count 111 = .ok (.aload_n 0, 1) := by decide +kernel
theorem dX12_count_112 : decode cX12_count 112 = .ok (.iload_n 3, 1) := by decide +kernel
theorem dX12_count_113 : decode cX12_count 113 = .ok (.iconst 0, 1) := by decide +kernel
theorem dX12_count_114 : decode cX12_count 114 = .ok (.invokevirtual 128, 3) := by decide +kernel
theorem dX12_count_117 : decode cX12_count 117 = .ok (.aload_n 0, 1) := by decide +kernel
theorem dX12_count_118 : decode cX12_count 118 = .ok (.iload_n 3, 1) := by decide +kernel
theorem dX12_count_119 : decode cX12_count 119 = .ok (.iconst 2, 1) := by decide +kernel
theorem dX12_count_120 : decode cX12_count 120 = .ok (.invokevirtual 128, 3) := by decide +kernel
theorem dX12_count_123 : decode cX12_count 123 = .ok (.if_icmp .eq 7, 3) := by decide +kernel
theorem dX12_count_126 : decode cX12_count 126 = .ok (.iconst 1, 1) := by decide +kernel
theorem dX12_count_127 : decode cX12_count 127 = .ok (.goto 4, 3) := by decide +kernel
theorem dX12_count_130 : decode cX12_count 130 = .ok (.iconst 0, 1) := by decide +kernel
theorem dX12_count_131 : decode cX12_count 131 = .ok (.iadd, 1) := by decide +kernel
theorem dX12_count_132 : decode cX12_count 132 = .ok (.istore_n 2, 1) := by decide +kernel
theorem dX12_count_133 : decode cX12_count 133 = .ok (.iinc 3 1, 3) := by decide +kernel
theorem dX12_count_136 : decode cX12_count 136 = .ok (.goto (-36), 3) := by decide +kernel
theorem dX12_count_139 : decode cX12_count 139 = .ok (.iload_n 2, 1) := by decide +kernel
theorem dX12_count_140 : decode cX12_count 140 = .ok (.ireturn, 1) := by decide +kernel
theorem dX12_count_141 : decode cX12_count 141 = .ok (.iconst 0, 1) := by decide +kernel
theorem dX12_count_142 : decode cX12_count 142 = .ok (.istore_n 3, 1) := by decide +kernel
theorem dX12_count_143 : decode cX12_count 143 = .ok (.iload_n 3, 1) := by decide +kernel
theorem dX12_count_144 : decode cX12_count 144 = .ok (.bipush 100, 2) := by decide +kernel
theorem dX12_count_146 : decode cX12_count 146 = .ok (.if_icmp .ge 29, 3) := by decide +kernel
theorem dX12_count_149 : decode cX12_count 149 = .ok (.iload_n 2, 1) := by decide +kernel
theorem dX12_count_150 : decode cX12_count 150 = .ok (.aload_n 0, 1) := by decide +kernel
theorem dX12_count_151 : decode cX12_count 151 = .ok (.getfield 9, 3) := by decide +kernel
theorem dX12_count_154 : decode cX12_count 154 = .ok (.bipush 56, 2) := by decide +kernel
theorem dX12_count_156 : decode cX12_count 156 = .ok (.iload_n 3, 1) := by decide +kernel
theorem dX12_count_157 : decode cX12_count 157 = .ok (.iadd, 1) := by decide +kernel
theorem dX12_count_158 : decode cX12_count 158 = .ok (.iaload, 1) := by decide +kernel
theorem dX12_count_159 : decode cX12_count 159 = .ok (.ifCond .lt 7, 3) := by decide +kernel
theorem dX12_count_162 : decode cX12_count 162 = .ok (.iconst 1, 1) := by decide +kernel
theorem dX12_count_163 : decode cX12_count 163 = .ok (.goto 4, 3) := by decide +kernel
theorem dX12_count_166 : decode cX12_count 166 = .ok (.iconst 0, 1) := by decide +kernel
theorem dX12_count_167 : decode cX12_count 167 = .ok (.iadd, 1) := by decide +kernel
theorem dX12_count_168 : decode cX12_count 168 = .ok (.istore_n 2, 1) := by decide +kernel
theorem dX12_count_169 : decode cX12_count 169 = .ok (.iinc 3 1, 3) := by decide +kernel
theorem dX12_count_172 : decode cX12_count 172 = .ok (.goto (-29), 3) := by decide +kernel
theorem dX12_count_175 : decode cX12_count 175 = .ok (.iload_n 2, 1) := by decide +kernel
theorem dX12_count_176 : decode cX12_count 176 = .ok (.ireturn, 1) := by decide +kernel
theorem dX12_count_177 : decode cX12_count 177 = .ok (.iconst (-1), 1) := by decide +kernel
theorem dX12_count_178 : decode cX12_count 178 = .ok (.ireturn, 1) := by decide +kernel
theorem dX12_keep_0 : decode cX12_keep 0 = .ok (.iload_n 1, 1) := by decide +kernel
theorem dX12_keep_1 : decode cX12_keep 1 = .ok (.invokestatic 101, 3) := by decide +kernel
theorem dX12_keep_4 : decode cX12_keep 4 = .ok (.ifCond .eq 26, 3) := by decide +kernel
theorem dX12_keep_7 : decode cX12_keep 7 = .ok (.iload_n 2, 1) := by decide +kernel
theorem dX12_keep_8 : decode cX12_keep 8 = .ok (.i2l, 1) := by decide +kernel
theorem dX12_keep_9 : decode cX12_keep 9 = .ok (.lconst 0, 1) := by decide +kernel
theorem dX12_keep_10 : decode cX12_keep 10 = .ok (.lconst 1, 1) := by decide +kernel
theorem dX12_keep_11 : decode cX12_keep 11 = .ok (.invokestatic 62, 3) := by decide +kernel
theorem dX12_keep_14 : decode cX12_keep 14 = .ok (.ifCond .eq 16, 3) := by decide +kernel
theorem dX12_keep_17 : decode cX12_keep 17 = .ok (.iload_n 2, 1) := by decide +kernel
theorem dX12_keep_18 : decode cX12_keep 18 = .ok (.iconst 1, 1) := by decide +kernel
theorem dX12_keep_19 : decode cX12_keep 19 = .ok (.if_icmp .ne 13, 3) := by decide +kernel
theorem dX12_keep_22 : decode cX12_keep 22 = .ok (.aload_n 0, 1) := by decide +kernel
theorem dX12_keep_23 : decode cX12_keep 23 = .ok (.iload_n 3, 1) := by decide +kernel
theorem dX12_keep_24 : decode cX12_keep 24 = .ok (.invokevirtual 114, 3) := by decide +kernel
theorem dX12_keep_27 : decode cX12_keep 27 = .ok (.ifCond .ne 5, 3) := by decide +kernel
theorem dX12_keep_30 : decode cX12_keep 30 = .ok (.iconst (-1), 1) := by decide +kernel
theorem dX12_keep_31 : decode cX12_keep 31 = .ok (.ireturn, 1) := by decide +kernel
theorem dX12_keep_32 : decode cX12_keep 32 = .ok (.aload_n 0, 1) := by decide +kernel
theorem dX12_keep_33 : decode cX12_keep 33 = .ok (.getfield 19, 3) := by decide +kernel
theorem dX12_keep_36 : decode cX12_keep 36 = .ok (.iload_n 1, 1) := by decide +kernel
theorem dX12_keep_37 : decode cX12_keep 37 = .ok (.iload_n 2, 1) := by decide +kernel
theorem dX12_keep_38 : decode cX12_keep 38 = .ok (.iastore, 1) := by decide +kernel
theorem dX12_keep_39 : decode cX12_keep 39 = .ok (.iload_n 2, 1) := by decide +kernel
theorem dX12_keep_40 : decode cX12_keep 40 = .ok (.ifCond .ne 5, 3) := by decide +kernel
theorem dX12_keep_43 : decode cX12_keep 43 = .ok (.iconst 0, 1) := by decide +kernel
theorem dX12_keep_44 : decode cX12_keep 44 = .ok (.ireturn, 1) := by decide +kernel
theorem dX12_keep_45 : decode cX12_keep 45 = .ok (.aload_n 0, 1) := by decide +kernel
theorem dX12_keep_46 : decode cX12_keep 46 = .ok (.iload_n 3, 1) := by decide +kernel
theorem dX12_keep_47 : decode cX12_keep 47 = .ok (.iconst 0, 1) := by decide +kernel
theorem dX12_keep_48 : decode cX12_keep 48 = .ok (.invokevirtual 119, 3) := by decide +kernel
theorem dX12_keep_51 : decode cX12_keep 51 = .ok (.istore 4, 2) := by decide +kernel
theorem dX12_keep_53 : decode cX12_keep 53 = .ok (.aload_n 0, 1) := by decide +kernel
theorem dX12_keep_54 : decode cX12_keep 54 = .ok (.getfield 31, 3) := by decide +kernel
theorem dX12_keep_57 : decode cX12_keep 57 = .ok (.iload_n 1, 1) := by decide +kernel
theorem dX12_keep_58 : decode cX12_keep 58 = .ok (.iload 4, 2) := by decide +kernel
theorem dX12_keep_60 : decode cX12_keep 60 = .ok (.aload_n 0, 1) := by decide +kernel
theorem dX12_keep_61 : decode cX12_keep 61 = .ok (.iload_n 3, 1) := by decide +kernel
theorem dX12_keep_62 : decode cX12_keep 62 = .ok (.iconst 1, 1) := by decide +kernel
theorem dX12_keep_63 : decode cX12_keep 63 = .ok (.invokevirtual 119, 3) := by decide +kernel
theorem dX12_keep_66 : decode cX12_keep 66 = .ok (.invokestatic 122, 3) := by decide +kernel
theorem dX12_keep_69 : decode cX12_keep 69 = .ok (.iastore, 1) := by decide +kernel
theorem dX12_keep_70 : decode cX12_keep 70 = .ok (.aload_n 0, 1) := by decide +kernel
theorem dX12_keep_71 : decode cX12_keep 71 = .ok (.getfield 34, 3) := by decide +kernel
theorem dX12_keep_74 : decode cX12_keep 74 = .ok (.iload_n 1, 1) := by decide +kernel
theorem dX12_keep_75 : decode cX12_keep 75 = .ok (.iload 4, 2) := by decide +kernel
theorem dX12_keep_77 : decode cX12_keep 77 = .ok (.iconst 5, 1) := by decide +kernel
theorem dX12_keep_78 : decode cX12_keep 78 = .ok (.if_icmp .eq 12, 3) := by decide +kernel
theorem dX12_keep_81 : decode cX12_keep 81 = .ok (.aload_n 0, 1) := by decide +kernel
theorem dX12_keep_82 : decode cX12_keep 82 = .ok (.iload_n 3, 1) := by decide +kernel
theorem dX12_keep_83 : decode cX12_keep 83 = .ok (.iconst 1, 1) := by decide +kernel
theorem dX12_keep_84 : decode cX12_keep 84 = .ok (.invokevirtual 119, 3) := by decide +kernel
theorem dX12_keep_87 : decode cX12_keep 87 = .ok (.ifCond .ne 8, 3) := by decide +kernel
theorem dX12_keep_90 : decode cX12_keep 90 = .ok (.bipush (-15), 2) := by decide +kernel
theorem dX12_keep_92 : decode cX12_keep 92 = .ok (.goto 38, 3) := by decide +kernel
theorem dX12_keep_95 : decode cX12_keep 95 = .ok (.iload 4, 2) := by decide +kernel
theorem dX12_keep_97 : decode cX12_keep 97 = .ok (.bipush 6, 2) := by decide +kernel
theorem dX12_keep_99 : decode cX12_keep 99 = .ok (.if_icmp .ne 10, 3) := by decide +kernel
theorem dX12_keep_102 : decode cX12_keep 102 = .ok (.bipush 100, 2) := by decide +kernel
theorem dX12_keep_104 : decode cX12_keep 104 = .ok (.iload_n 3, 1) := by decide +kernel
theorem dX12_keep_105 : decode cX12_keep 105 = .ok (.iadd, 1) := by decide +kernel
theorem dX12_keep_106 : decode cX12_keep 106 = .ok (.goto 24, 3) := by decide +kernel
theorem dX12_keep_109 : decode cX12_keep 109 = .ok (.iload 4, 2) := by decide +kernel
theorem dX12_keep_111 : decode cX12_keep 111 = .ok (.bipush 7, 2) := by decide +kernel
theorem dX12_keep_113 : decode cX12_keep 113 = .ok (.if_icmp .ne 16, 3) := by decide +kernel
theorem dX12_keep_116 : decode cX12_keep 116 = .ok (.sipush 200, 3) := by decide +kernel
theorem dX12_keep_119 : decode cX12_keep 119 = .ok (.aload_n 0, 1) := by decide +kernel
theorem dX12_keep_120 : decode cX12_keep 120 = .ok (.getfield 31, 3) := by decide +kernel
theorem dX12_keep_123 : decode cX12_keep 123 = .ok (.iload_n 1, 1) := by decide +kernel
theorem dX12_keep_124 : decode cX12_keep 124 = .ok (.iaload, 1) := by decide +kernel
theorem dX12_keep_125 : decode cX12_keep 125 = .ok (.iadd, 1) := by decide +kernel
theorem dX12_keep_126 : decode cX12_keep 126 = .ok (.goto 4, 3) := by decide +kernel
theorem dX12_keep_129 : decode cX12_keep 129 = .ok (.iload_n 3, 1) := by decide +kernel
theorem dX12_keep_130 : decode cX12_keep 130 = .ok (.iastore, 1) := by decide +kernel
theorem dX12_keep_131 : decode cX12_keep 131 = .ok (.iconst 0, 1) := by decide +kernel
theorem dX12_keep_132 : decode cX12_keep 132 = .ok (.ireturn, 1) := by decide +kernel
theorem dX12_row_0 : decode cX12_row 0 = .ok (.iload_n 1, 1) := by decide +kernel
theorem dX12_row_1 : decode cX12_row 1 = .ok (.invokestatic 101, 3) := by decide +kernel
theorem dX12_row_4 : decode cX12_row 4 = .ok (.ifCond .eq 21, 3) := by decide +kernel
theorem dX12_row_7 : decode cX12_row 7 = .ok (.iload_n 2, 1) := by decide +kernel
theorem dX12_row_8 : decode cX12_row 8 = .ok (.i2l, 1) := by decide +kernel
theorem dX12_row_9 : decode cX12_row 9 = .ok (.lconst 0, 1) := by decide +kernel
theorem dX12_row_10 : decode cX12_row 10 = .ok (.ldc2_w 117, 3) := by decide +kernel
theorem dX12_row_13 : decode cX12_row 13 = .ok (.invokestatic 62, 3) := by decide +kernel
theorem dX12_row_16 : decode cX12_row 16 = .ok (.ifCond .eq 9, 3) := by decide +kernel
theorem dX12_row_19 : decode cX12_row 19 = .ok (.iload_n 3, 1) := by decide +kernel
theorem dX12_row_20 : decode cX12_row 20 = .ok (.bipush 100, 2) := by decide +kernel
theorem dX12_row_22 : decode cX12_row 22 = .ok (.if_icmp .le 5, 3) := by decide +kernel
theorem dX12_row_25 : decode cX12_row 25 = .ok (.iconst (-1), 1) := by decide +kernel
theorem dX12_row_26 : decode cX12_row 26 = .ok (.ireturn, 1) := by decide +kernel
theorem dX12_row_27 : decode cX12_row 27 = .ok (.iload_n 3, 1) := by decide +kernel
theorem dX12_row_28 : decode cX12_row 28 = .ok (.ifCond .ge 6, 3) := by decide +kernel
theorem dX12_row_31 : decode cX12_row 31 = .ok (.bipush (-14), 2) := by decide +kernel
theorem dX12_row_33 : decode cX12_row 33 = .ok (.ireturn, 1) := by decide +kernel
theorem dX12_row_34 : decode cX12_row 34 = .ok (.aload_n 0, 1) := by decide +kernel
theorem dX12_row_35 : decode cX12_row 35 = .ok (.getfield 19, 3) := by decide +kernel
theorem dX12_row_38 : decode cX12_row 38 = .ok (.iload_n 1, 1) := by decide +kernel
theorem dX12_row_39 : decode cX12_row 39 = .ok (.iconst 2, 1) := by decide +kernel
theorem dX12_row_40 : decode cX12_row 40 = .ok (.iastore, 1) := by decide +kernel
theorem dX12_row_41 : decode cX12_row 41 = .ok (.aload_n 0, 1) := by decide +kernel
theorem dX12_row_42 : decode cX12_row 42 = .ok (.getfield 22, 3) := by decide +kernel
theorem dX12_row_45 : decode cX12_row 45 = .ok (.iload_n 1, 1) := by decide +kernel
theorem dX12_row_46 : decode cX12_row 46 = .ok (.iload_n 2, 1) := by decide +kernel
theorem dX12_row_47 : decode cX12_row 47 = .ok (.iastore, 1) := by decide +kernel
theorem dX12_row_48 : decode cX12_row 48 = .ok (.aload_n 0, 1) := by decide +kernel
theorem dX12_row_49 : decode cX12_row 49 = .ok (.getfield 25, 3) := by decide +kernel
theorem dX12_row_52 : decode cX12_row 52 = .ok (.iload_n 1, 1) := by decide +kernel
theorem dX12_row_53 : decode cX12_row 53 = .ok (.iload_n 3, 1) := by decide +kernel
theorem dX12_row_54 : decode cX12_row 54 = .ok (.iastore, 1) := by decide +kernel
theorem dX12_row_55 : decode cX12_row 55 = .ok (.iconst 0, 1) := by decide +kernel
theorem dX12_row_56 : decode cX12_row 56 = .ok (.istore 4, 2) := by decide +kernel
theorem dX12_row_58 : decode cX12_row 58 = .ok (.iload 4, 2) := by decide +kernel
theorem dX12_row_60 : decode cX12_row 60 = .ok (.bipush 100, 2) := by decide +kernel
theorem dX12_row_62 : decode cX12_row 62 = .ok (.if_icmp .ge 22, 3) := by decide +kernel
theorem dX12_row_65 : decode cX12_row 65 = .ok (.aload_n 0, 1) := by decide +kernel
theorem dX12_row_66 : decode cX12_row 66 = .ok (.getfield 28, 3) := by decide +kernel
theorem dX12_row_69 : decode cX12_row 69 = .ok (.bipush 100, 2) := by decide +kernel
theorem dX12_row_71 : decode cX12_row 71 = .ok (.iload_n 1, 1) := by decide +kernel
theorem dX12_row_72 : decode cX12_row 72 = .ok (.imul, 1) := by decide +kernel
theorem dX12_row_73 : decode cX12_row 73 = .ok (.iload 4, 2) := by decide +kernel
theorem dX12_row_75 : decode cX12_row 75 = .ok (.iadd, 1) := by decide +kernel
theorem dX12_row_76 : decode cX12_row 76 = .ok (.iconst 0, 1) := by decide +kernel
theorem dX12_row_77 : decode cX12_row 77 = .ok (.iastore, 1) := by decide +kernel
theorem dX12_row_78 : decode cX12_row 78 = .ok (.iinc 4 1, 3) := by decide +kernel
theorem dX12_row_81 : decode cX12_row 81 = .ok (.goto (-23), 3) := by decide +kernel
theorem dX12_row_84 : decode cX12_row 84 = .ok (.iconst 0, 1) := by decide +kernel
theorem dX12_row_85 : decode cX12_row 85 = .ok (.ireturn, 1) := by decide +kernel
theorem dX12_put_0 : decode cX12_put 0 = .ok (.aload_n 0, 1) := by decide +kernel
theorem dX12_put_1 : decode cX12_put 1 = .ok (.iload_n 1, 1) := by decide +kernel
theorem dX12_put_2 : decode cX12_put 2 = .ok (.iconst (-1), 1) := by decide +kernel
theorem dX12_put_3 : decode cX12_put 3 = .ok (.invokevirtual 104, 3) := by decide +kernel
theorem dX12_put_6 : decode cX12_put 6 = .ok (.istore 4, 2) := by decide +kernel
theorem dX12_put_8 : decode cX12_put 8 = .ok (.iload 4, 2) := by decide +kernel
theorem dX12_put_10 : decode cX12_put 10 = .ok (.ifCond .eq 6, 3) := by decide +kernel
theorem dX12_put_13 : decode cX12_put 13 = .ok (.iload 4, 2) := by decide +kernel
theorem dX12_put_15 : decode cX12_put 15 = .ok (.ireturn, 1) := by decide +kernel
theorem dX12_put_16 : decode cX12_put 16 = .ok (.iload_n 2, 1) := by decide +kernel
theorem dX12_put_17 : decode cX12_put 17 = .ok (.i2l, 1) := by decide +kernel
theorem dX12_put_18 : decode cX12_put 18 = .ok (.lconst 0, 1) := by decide +kernel
theorem dX12_put_19 : decode cX12_put 19 = .ok (.aload_n 0, 1) := by decide +kernel
theorem dX12_put_20 : decode cX12_put 20 = .ok (.getfield 25, 3) := by decide +kernel
theorem dX12_put_23 : decode cX12_put 23 = .ok (.iload_n 1, 1) := by decide +kernel
theorem dX12_put_24 : decode cX12_put 24 = .ok (.iaload, 1) := by decide +kernel
theorem dX12_put_25 : decode cX12_put 25 = .ok (.iconst 1, 1) := by decide +kernel
theorem dX12_put_26 : decode cX12_put 26 = .ok (.isub, 1) := by decide +kernel
theorem dX12_put_27 : decode cX12_put 27 = .ok (.i2l, 1) := by decide +kernel
theorem dX12_put_28 : decode cX12_put 28 = .ok (.invokestatic 62, 3) := by decide +kernel
theorem dX12_put_31 : decode cX12_put 31 = .ok (.ifCond .ne 6, 3) := by decide +kernel
theorem dX12_put_34 : decode cX12_put 34 = .ok (.bipush (-13), 2) := by decide +kernel
theorem dX12_put_36 : decode cX12_put 36 = .ok (.ireturn, 1) := by decide +kernel
theorem dX12_put_37 : decode cX12_put 37 = .ok (.aload_n 0, 1) := by decide +kernel
theorem dX12_put_38 : decode cX12_put 38 = .ok (.getfield 28, 3) := by decide +kernel
theorem dX12_put_41 : decode cX12_put 41 = .ok (.bipush 100, 2) := by decide +kernel
theorem dX12_put_43 : decode cX12_put 43 = .ok (.iload_n 1, 1) := by decide +kernel
theorem dX12_put_44 : decode cX12_put 44 = .ok (.imul, 1) := by decide +kernel
theorem dX12_put_45 : decode cX12_put 45 = .ok (.iload_n 2, 1) := by decide +kernel
theorem dX12_put_46 : decode cX12_put 46 = .ok (.iadd, 1) := by decide +kernel
theorem dX12_put_47 : decode cX12_put 47 = .ok (.aload_n 0, 1) := by decide +kernel
theorem dX12_put_48 : decode cX12_put 48 = .ok (.getfield 22, 3) := by decide +kernel
theorem dX12_put_51 : decode cX12_put 51 = .ok (.iload_n 1, 1) := by decide +kernel
theorem dX12_put_52 : decode cX12_put 52 = .ok (.iaload, 1) := by decide +kernel
theorem dX12_put_53 : decode cX12_put 53 = .ok (.ifCond .ne 8, 3) := by decide +kernel
theorem dX12_put_56 : decode cX12_put 56 = .ok (.iload_n 3, 1) := by decide +kernel
theorem dX12_put_57 : decode cX12_put 57 = .ok (.i2b, 1) := by decide +kernel
theorem dX12_put_58 : decode cX12_put 58 = .ok (.goto 19, 3) := by decide +kernel
theorem dX12_put_61 : decode cX12_put 61 = .ok (.aload_n 0, 1) := by decide +kernel
theorem dX12_put_62 : decode cX12_put 62 = .ok (.getfield 22, 3) := by decide +kernel
theorem dX12_put_65 : decode cX12_put 65 = .ok (.iload_n 1, 1) := by decide +kernel
theorem dX12_put_66 : decode cX12_put 66 = .ok (.iaload, 1) := by decide +kernel
theorem dX12_put_67 : decode cX12_put 67 = .ok (.iconst 1, 1) := by decide +kernel
theorem dX12_put_68 : decode cX12_put 68 = .ok (.if_icmp .ne 8, 3) := by decide +kernel
theorem dX12_put_71 : decode cX12_put 71 = .ok (.iload_n 3, 1) := by decide +kernel
theorem dX12_put_72 : decode cX12_put 72 = .ok (.i2s, 1) := by decide +kernel
theorem dX12_put_73 : decode cX12_put 73 = .ok (.goto 4, 3) := by decide +kernel
theorem dX12_put_76 : decode cX12_put 76 = .ok (.iload_n 3, 1) := by decide +kernel
theorem dX12_put_77 : decode cX12_put 77 = .ok (.iastore, 1) := by decide +kernel
theorem dX12_put_78 : decode cX12_put 78 = .ok (.iconst 0, 1) := by decide +kernel
theorem dX12_put_79 : decode cX12_put 79 = .ok (.ireturn, 1) := by decide +kernel
theorem dX12_element_0 : decode cX12_element 0 = .ok (.aload_n 0, 1) := by decide +kernel
theorem dX12_element_1 : decode cX12_element 1 = .ok (.iload_n 1, 1) := by decide +kernel
theorem dX12_element_2 : decode cX12_element 2 = .ok (.invokestatic 101, 3) := by decide +kernel
theorem dX12_element_5 : decode cX12_element 5 = .ok (.ifCond .ne 7, 3) := by decide +kernel
theorem dX12_element_8 : decode cX12_element 8 = .ok (.iconst 1, 1) := by decide +kernel
theorem dX12_element_9 : decode cX12_element 9 = .ok (.goto 36, 3) := by decide +kernel
theorem dX12_element_12 : decode cX12_element 12 = .ok (.aload_n 0, 1) := by decide +kernel
theorem dX12_element_13 : decode cX12_element 13 = .ok (.getfield 19, 3) := by decide +kernel
theorem dX12_element_16 : decode cX12_element 16 = .ok (.iload_n 1, 1) := by decide +kernel
theorem dX12_element_17 : decode cX12_element 17 = .ok (.iaload, 1) := by decide +kernel
theorem dX12_element_18 : decode cX12_element 18 = .ok (.iconst 2, 1) := by decide +kernel
theorem dX12_element_19 : decode cX12_element 19 = .ok (.if_icmp .ne 21, 3) := by decide +kernel
theorem dX12_element_22 : decode cX12_element 22 = .ok (.iload_n 2, 1) := by decide +kernel
theorem dX12_element_23 : decode cX12_element 23 = .ok (.i2l, 1) := by decide +kernel
theorem dX12_element_24 : decode cX12_element 24 = .ok (.lconst 0, 1) := by decide +kernel
theorem dX12_element_25 : decode cX12_element 25 = .ok (.aload_n 0, 1) := by decide +kernel
theorem dX12_element_26 : decode cX12_element 26 = .ok (.getfield 25, 3) := by decide +kernel
theorem dX12_element_29 : decode cX12_element 29 = .ok (.iload_n 1, 1) := by decide +kernel
theorem dX12_element_30 : decode cX12_element 30 = .ok (.iaload, 1) := by decide +kernel
theorem dX12_element_31 : decode cX12_element 31 = .ok (.iconst 1, 1) := by decide +kernel
theorem dX12_element_32 : decode cX12_element 32 = .ok (.isub, 1) := by decide +kernel
theorem dX12_element_33 : decode cX12_element 33 = .ok (.i2l, 1) := by decide +kernel
theorem dX12_element_34 : decode cX12_element 34 = .ok (.invokestatic 62, 3) := by decide +kernel
theorem dX12_element_37 : decode cX12_element 37 = .ok (.ifCond .ne 7, 3) := by decide +kernel
theorem dX12_element_40 : decode cX12_element 40 = .ok (.iconst 2, 1) := by decide +kernel
theorem dX12_element_41 : decode cX12_element 41 = .ok (.goto 4, 3) := by decide +kernel
theorem dX12_element_44 : decode cX12_element 44 = .ok (.iconst 0, 1) := by decide +kernel
theorem dX12_element_45 : decode cX12_element 45 = .ok (.putfield 58, 3) := by decide +kernel
theorem dX12_element_48 : decode cX12_element 48 = .ok (.aload_n 0, 1) := by decide +kernel
theorem dX12_element_49 : decode cX12_element 49 = .ok (.getfield 58, 3) := by decide +kernel
theorem dX12_element_52 : decode cX12_element 52 = .ok (.ifCond .ne 18, 3) := by decide +kernel
theorem dX12_element_55 : decode cX12_element 55 = .ok (.aload_n 0, 1) := by decide +kernel
theorem dX12_element_56 : decode cX12_element 56 = .ok (.getfield 28, 3) := by decide +kernel
theorem dX12_element_59 : decode cX12_element 59 = .ok (.bipush 100, 2) := by decide +kernel
theorem dX12_element_61 : decode cX12_element 61 = .ok (.iload_n 1, 1) := by decide +kernel
theorem dX12_element_62 : decode cX12_element 62 = .ok (.imul, 1) := by decide +kernel
theorem dX12_element_63 : decode cX12_element 63 = .ok (.iload_n 2, 1) := by decide +kernel
theorem dX12_element_64 : decode cX12_element 64 = .ok (.iadd, 1) := by decide +kernel
theorem dX12_element_65 : decode cX12_element 65 = .ok (.iaload, 1) := by decide +kernel
theorem dX12_element_66 : decode cX12_element 66 = .ok (.i2l, 1) := by decide +kernel
theorem dX12_element_67 : decode cX12_element 67 = .ok (.goto 4, 3) := by decide +kernel
theorem dX12_element_70 : decode cX12_element 70 = .ok (.lconst 0, 1) := by decide +kernel
theorem dX12_element_71 : decode cX12_element 71 = .ok (.lreturn, 1) := by decide +kernel
theorem dX12_copy_0 : decode cX12_copy 0 = .ok (.iload_n 1, 1) := by decide +kernel
theorem dX12_copy_1 : decode cX12_copy 1 = .ok (.invokestatic 101, 3) := by decide +kernel
theorem dX12_copy_4 : decode cX12_copy 4 = .ok (.ifCond .eq 10, 3) := by decide +kernel
theorem dX12_copy_7 : decode cX12_copy 7 = .ok (.iload_n 3, 1) := by decide +kernel
theorem dX12_copy_8 : decode cX12_copy 8 = .ok (.invokestatic 101, 3) := by decide +kernel
theorem dX12_copy_11 : decode cX12_copy 11 = .ok (.ifCond .ne 5, 3) := by decide +kernel
theorem dX12_copy_14 : decode cX12_copy 14 = .ok (.iconst (-1), 1) := by decide +kernel
theorem dX12_copy_15 : decode cX12_copy 15 = .ok (.ireturn, 1) := by decide +kernel
theorem dX12_copy_16 : decode cX12_copy 16 = .ok (.aload_n 0, 1) := by decide +kernel
theorem dX12_copy_17 : decode cX12_copy 17 = .ok (.getfield 19, 3) := by decide +kernel
theorem dX12_copy_20 : decode cX12_copy 20 = .ok (.iload_n 1, 1) := by decide +kernel
theorem dX12_copy_21 : decode cX12_copy 21 = .ok (.iaload, 1) := by decide +kernel
theorem dX12_copy_22 : decode cX12_copy 22 = .ok (.ifCond .eq 12, 3) := by decide +kernel
theorem dX12_copy_25 : decode cX12_copy 25 = .ok (.aload_n 0, 1) := by decide +kernel
theorem dX12_copy_26 : decode cX12_copy 26 = .ok (.getfield 19, 3) := by decide +kernel
theorem dX12_copy_29 : decode cX12_copy 29 = .ok (.iload_n 3, 1) := by decide +kernel
theorem dX12_copy_30 : decode cX12_copy 30 = .ok (.iaload, 1) := by decide +kernel
theorem dX12_copy_31 : decode cX12_copy 31 = .ok (.ifCond .ne 6, 3) := by decide +kernel
theorem dX12_copy_34 : decode cX12_copy 34 = .ok (.bipush (-11), 2) := by decide +kernel
theorem dX12_copy_36 : decode cX12_copy 36 = .ok (.ireturn, 1) := by decide +kernel
theorem dX12_copy_37 : decode cX12_copy 37 = .ok (.aload_n 0, 1) := by decide +kernel
theorem dX12_copy_38 : decode cX12_copy 38 = .ok (.getfield 19, 3) := by decide +kernel
theorem dX12_copy_41 : decode cX12_copy 41 = .ok (.iload_n 1, 1) := by decide +kernel
theorem dX12_copy_42 : decode cX12_copy 42 = .ok (.iaload, 1) := by decide +kernel
theorem dX12_copy_43 : decode cX12_copy 43 = .ok (.iconst 2, 1) := by decide +kernel
theorem dX12_copy_44 : decode cX12_copy 44 = .ok (.if_icmp .ne 28, 3) := by decide +kernel
theorem dX12_copy_47 : decode cX12_copy 47 = .ok (.aload_n 0, 1) := by decide +kernel
theorem dX12_copy_48 : decode cX12_copy 48 = .ok (.getfield 19, 3) := by decide +kernel
theorem dX12_copy_51 : decode cX12_copy 51 = .ok (.iload_n 3, 1) := by decide +kernel
theorem dX12_copy_52 : decode cX12_copy 52 = .ok (.iaload, 1) := by decide +kernel
theorem dX12_copy_53 : decode cX12_copy 53 = .ok (.iconst 2, 1) := by decide +kernel
theorem dX12_copy_54 : decode cX12_copy 54 = .ok (.if_icmp .ne 18, 3) := by decide +kernel
theorem dX12_copy_57 : decode cX12_copy 57 = .ok (.aload_n 0, 1) := by decide +kernel
theorem dX12_copy_58 : decode cX12_copy 58 = .ok (.getfield 22, 3) := by decide +kernel
theorem dX12_copy_61 : decode cX12_copy 61 = .ok (.iload_n 1, 1) := by decide +kernel
theorem dX12_copy_62 : decode cX12_copy 62 = .ok (.iaload, 1) := by decide +kernel
theorem dX12_copy_63 : decode cX12_copy 63 = .ok (.aload_n 0, 1) := by decide +kernel
theorem dX12_copy_64 : decode cX12_copy 64 = .ok (.getfield 22, 3) := by decide +kernel
theorem dX12_copy_67 : decode cX12_copy 67 = .ok (.iload_n 3, 1) := by decide +kernel
theorem dX12_copy_68 : decode cX12_copy 68 = .ok (.iaload, 1) := by decide +kernel
theorem dX12_copy_69 : decode cX12_copy 69 = .ok (.if_icmp .eq 6, 3) := by decide +kernel
theorem dX12_copy_72 : decode cX12_copy 72 = .ok (.bipush (-12), 2) := by decide +kernel
theorem dX12_copy_74 : decode cX12_copy 74 = .ok (.ireturn, 1) := by decide +kernel
theorem dX12_copy_75 : decode cX12_copy 75 = .ok (.iload 5, 2) := by decide +kernel
theorem dX12_copy_77 : decode cX12_copy 77 = .ok (.ifCond .lt 39, 3) := by decide +kernel
theorem dX12_copy_80 : decode cX12_copy 80 = .ok (.iload_n 2, 1) := by decide +kernel
theorem dX12_copy_81 : decode cX12_copy 81 = .ok (.ifCond .lt 35, 3) := by decide +kernel
theorem dX12_copy_84 : decode cX12_copy 84 = .ok (.iload 4, 2) := by decide +kernel
theorem dX12_copy_86 : decode cX12_copy 86 = .ok (.ifCond .lt 30, 3) := by decide +kernel
theorem dX12_copy_89 : decode cX12_copy 89 = .ok (.iload 5, 2) := by decide +kernel
theorem dX12_copy_91 : decode cX12_copy 91 = .ok (.aload_n 0, 1) := by decide +kernel
theorem dX12_copy_92 : decode cX12_copy 92 = .ok (.getfield 25, 3) := by decide +kernel
theorem dX12_copy_95 : decode cX12_copy 95 = .ok (.iload_n 1, 1) := by decide +kernel
theorem dX12_copy_96 : decode cX12_copy 96 = .ok (.iaload, 1) := by decide +kernel
theorem dX12_copy_97 : decode cX12_copy 97 = .ok (.iload_n 2, 1) := by decide +kernel
theorem dX12_copy_98 : decode cX12_copy 98 = .ok (.isub, 1) := by decide +kernel
theorem dX12_copy_99 : decode cX12_copy 99 = .ok (.if_icmp .gt 17, 3) := by decide +kernel
theorem dX12_copy_102 : decode cX12_copy 102 = .ok (.iload 5, 2) := by decide +kernel
theorem dX12_copy_104 : decode cX12_copy 104 = .ok (.aload_n 0, 1) := by decide +kernel
theorem dX12_copy_105 : decode cX12_copy 105 = .ok (.getfield 25, 3) := by decide +kernel
theorem dX12_copy_108 : decode cX12_copy 108 = .ok (.iload_n 3, 1) := by decide +kernel
theorem dX12_copy_109 : decode cX12_copy 109 = .ok (.iaload, 1) := by decide +kernel
theorem dX12_copy_110 : decode cX12_copy 110 = .ok (.iload 4, 2) := by decide +kernel
theorem dX12_copy_112 : decode cX12_copy 112 = .ok (.isub, 1) := by decide +kernel
theorem dX12_copy_113 : decode cX12_copy 113 = .ok (.if_icmp .le 6, 3) := by decide +kernel
theorem dX12_copy_116 : decode cX12_copy 116 = .ok (.bipush (-13), 2) := by decide +kernel
theorem dX12_copy_118 : decode cX12_copy 118 = .ok (.ireturn, 1) := by decide +kernel
theorem dX12_copy_119 : decode cX12_copy 119 = .ok (.iconst 0, 1) := by decide +kernel
theorem dX12_copy_120 : decode cX12_copy 120 = .ok (.istore 6, 2) := by decide +kernel
theorem dX12_copy_122 : decode cX12_copy 122 = .ok (.iload 6, 2) := by decide +kernel
theorem dX12_copy_124 : decode cX12_copy 124 = .ok (.iload 5, 2) := by decide +kernel
theorem dX12_copy_126 : decode cX12_copy 126 = .ok (.if_icmp .ge 58, 3) := by decide +kernel
theorem dX12_copy_129 : decode cX12_copy 129 = .ok (.iload_n 2, 1) := by decide +kernel
theorem dX12_copy_130 : decode cX12_copy 130 = .ok (.iload 4, 2) := by decide +kernel
theorem dX12_copy_132 : decode cX12_copy 132 = .ok (.if_icmp .le 8, 3) := by decide +kernel
theorem dX12_copy_135 : decode cX12_copy 135 = .ok (.iload 6, 2) := by decide +kernel
theorem dX12_copy_137 : decode cX12_copy 137 = .ok (.goto 10, 3) := by decide +kernel
theorem dX12_copy_140 : decode cX12_copy 140 = .ok (.iload 5, 2) := by decide +kernel
theorem dX12_copy_142 : decode cX12_copy 142 = .ok (.iconst 1, 1) := by decide +kernel
theorem dX12_copy_143 : decode cX12_copy 143 = .ok (.isub, 1) := by decide +kernel
theorem dX12_copy_144 : decode cX12_copy 144 = .ok (.iload 6, 2) := by decide +kernel
theorem dX12_copy_146 : decode cX12_copy 146 = .ok (.isub, 1) := by decide +kernel
theorem dX12_copy_147 : decode cX12_copy 147 = .ok (.istore 7, 2) := by decide +kernel
theorem dX12_copy_149 : decode cX12_copy 149 = .ok (.aload_n 0, 1) := by decide +kernel
theorem dX12_copy_150 : decode cX12_copy 150 = .ok (.getfield 28, 3) := by decide +kernel
theorem dX12_copy_153 : decode cX12_copy 153 = .ok (.bipush 100, 2) := by decide +kernel
theorem dX12_copy_155 : decode cX12_copy 155 = .ok (.iload_n 3, 1) := by decide +kernel
theorem dX12_copy_156 : decode cX12_copy 156 = .ok (.imul, 1) := by decide +kernel
theorem dX12_copy_157 : decode cX12_copy 157 = .ok (.iload 4, 2) := by decide +kernel
theorem dX12_copy_159 : decode cX12_copy 159 = .ok (.iadd, 1) := by decide +kernel
theorem dX12_copy_160 : decode cX12_copy 160 = .ok (.iload 7, 2) := by decide +kernel
theorem dX12_copy_162 : decode cX12_copy 162 = .ok (.iadd, 1) := by decide +kernel
theorem dX12_copy_163 : decode cX12_copy 163 = .ok (.aload_n 0, 1) := by decide +kernel
theorem dX12_copy_164 : decode cX12_copy 164 = .ok (.getfield 28, 3) := by decide +kernel
theorem dX12_copy_167 : decode cX12_copy 167 = .ok (.bipush 100, 2) := by decide +kernel
theorem dX12_copy_169 : decode cX12_copy 169 = .ok (.iload_n 1, 1) := by decide +kernel
theorem dX12_copy_170 : decode cX12_copy 170 = .ok (.imul, 1) := by decide +kernel
theorem dX12_copy_171 : decode cX12_copy 171 = .ok (.iload_n 2, 1) := by decide +kernel
theorem dX12_copy_172 : decode cX12_copy 172 = .ok (.iadd, 1) := by decide +kernel
theorem dX12_copy_173 : decode cX12_copy 173 = .ok (.iload 7, 2) := by decide +kernel
theorem dX12_copy_175 : decode cX12_copy 175 = .ok (.iadd, 1) := by decide +kernel
theorem dX12_copy_176 : decode cX12_copy 176 = .ok (.iaload, 1) := by decide +kernel
theorem dX12_copy_177 : decode cX12_copy 177 = .ok (.iastore, 1) := by decide +kernel
theorem dX12_copy_178 : decode cX12_copy 178 = .ok (.iinc 6 1, 3) := by decide +kernel
theorem dX12_copy_181 : decode cX12_copy 181 = .ok (.goto (-59), 3) := by decide +kernel
theorem dX12_copy_184 : decode cX12_copy 184 = .ok (.iload 5, 2) := by decide +kernel
theorem dX12_copy_186 : decode cX12_copy 186 = .ok (.ireturn, 1) := by decide +kernel
theorem dX12_wrongKept_0 : decode cX12_wrongKept 0 = .ok (.iload_n 1, 1) := by decide +kernel
theorem dX12_wrongKept_1 : decode cX12_wrongKept 1 = .ok (.invokestatic 101, 3) := by decide +kernel
theorem dX12_wrongKept_4 : decode cX12_wrongKept 4 = .ok (.ifCond .ne 7, 3) := by decide +kernel
theorem dX12_wrongKept_7 : decode cX12_wrongKept 7 = .ok (.iconst (-1), 1) := by decide +kernel
theorem dX12_wrongKept_8 : decode cX12_wrongKept 8 = .ok (.goto 33, 3) := by decide +kernel
theorem dX12_wrongKept_11 : decode cX12_wrongKept 11 = .ok (.aload_n 0, 1) := by decide +kernel
theorem dX12_wrongKept_12 : decode cX12_wrongKept 12 = .ok (.getfield 19, 3) := by decide +kernel
theorem dX12_wrongKept_15 : decode cX12_wrongKept 15 = .ok (.iload_n 1, 1) := by decide +kernel
theorem dX12_wrongKept_16 : decode cX12_wrongKept 16 = .ok (.iaload, 1) := by decide +kernel
theorem dX12_wrongKept_17 : decode cX12_wrongKept 17 = .ok (.ifCond .ne 8, 3) := by decide +kernel
theorem dX12_wrongKept_20 : decode cX12_wrongKept 20 = .ok (.bipush (-11), 2) := by decide +kernel
theorem dX12_wrongKept_22 : decode cX12_wrongKept 22 = .ok (.goto 19, 3) := by decide +kernel
theorem dX12_wrongKept_25 : decode cX12_wrongKept 25 = .ok (.aload_n 0, 1) := by decide +kernel
theorem dX12_wrongKept_26 : decode cX12_wrongKept 26 = .ok (.getfield 19, 3) := by decide +kernel
theorem dX12_wrongKept_29 : decode cX12_wrongKept 29 = .ok (.iload_n 1, 1) := by decide +kernel
theorem dX12_wrongKept_30 : decode cX12_wrongKept 30 = .ok (.iaload, 1) := by decide +kernel
theorem dX12_wrongKept_31 : decode cX12_wrongKept 31 = .ok (.iconst 1, 1) := by decide +kernel
theorem dX12_wrongKept_32 : decode cX12_wrongKept 32 = .ok (.if_icmp .ne 7, 3) := by decide +kernel
theorem dX12_wrongKept_35 : decode cX12_wrongKept 35 = .ok (.iconst 0, 1) := by decide +kernel
theorem dX12_wrongKept_36 : decode cX12_wrongKept 36 = .ok (.goto 5, 3) := by decide +kernel
theorem dX12_wrongKept_39 : decode cX12_wrongKept 39 = .ok (.bipush (-12), 2) := by decide +kernel
theorem dX12_wrongKept_41 : decode cX12_wrongKept 41 = .ok (.ireturn, 1) := by decide +kernel
theorem dX12_cost_0 : decode cX12_cost 0 = .ok (.aload_n 0, 1) := by decide +kernel
theorem dX12_cost_1 : decode cX12_cost 1 = .ok (.iload_n 1, 1) := by decide +kernel
theorem dX12_cost_2 : decode cX12_cost 2 = .ok (.invokevirtual 257, 3) := by decide +kernel
theorem dX12_cost_5 : decode cX12_cost 5 = .ok (.istore_n 2, 1) := by decide +kernel
theorem dX12_cost_6 : decode cX12_cost 6 = .ok (.iload_n 2, 1) := by decide +kernel
theorem dX12_cost_7 : decode cX12_cost 7 = .ok (.ifCond .eq 7, 3) := by decide +kernel
theorem dX12_cost_10 : decode cX12_cost 10 = .ok (.iload_n 2, 1) := by decide +kernel
theorem dX12_cost_11 : decode cX12_cost 11 = .ok (.goto 9, 3) := by decide +kernel
theorem dX12_cost_14 : decode cX12_cost 14 = .ok (.aload_n 0, 1) := by decide +kernel
theorem dX12_cost_15 : decode cX12_cost 15 = .ok (.getfield 31, 3) := by decide +kernel
theorem dX12_cost_18 : decode cX12_cost 18 = .ok (.iload_n 1, 1) := by decide +kernel
theorem dX12_cost_19 : decode cX12_cost 19 = .ok (.iaload, 1) := by decide +kernel
theorem dX12_cost_20 : decode cX12_cost 20 = .ok (.ireturn, 1) := by decide +kernel
theorem dX12_toss_0 : decode cX12_toss 0 = .ok (.aload_n 0, 1) := by decide +kernel
theorem dX12_toss_1 : decode cX12_toss 1 = .ok (.iload_n 1, 1) := by decide +kernel
theorem dX12_toss_2 : decode cX12_toss 2 = .ok (.invokevirtual 257, 3) := by decide +kernel
theorem dX12_toss_5 : decode cX12_toss 5 = .ok (.istore_n 2, 1) := by decide +kernel
theorem dX12_toss_6 : decode cX12_toss 6 = .ok (.iload_n 2, 1) := by decide +kernel
theorem dX12_toss_7 : decode cX12_toss 7 = .ok (.ifCond .eq 7, 3) := by decide +kernel
theorem dX12_toss_10 : decode cX12_toss 10 = .ok (.iload_n 2, 1) := by decide +kernel
theorem dX12_toss_11 : decode cX12_toss 11 = .ok (.goto 9, 3) := by decide +kernel
theorem dX12_toss_14 : decode cX12_toss 14 = .ok (.aload_n 0, 1) := by decide +kernel
theorem dX12_toss_15 : decode cX12_toss 15 = .ok (.getfield 34, 3) := by decide +kernel
theorem dX12_toss_18 : decode cX12_toss 18 = .ok (.iload_n 1, 1) := by decide +kernel
theorem dX12_toss_19 : decode cX12_toss 19 = .ok (.iaload, 1) := by decide +kernel
theorem dX12_toss_20 : decode cX12_toss 20 = .ok (.ireturn, 1) := by decide +kernel
