theorem dX0_init_0 : decode cX0_init 0 = .ok (.aload_n 0, 1) := by decide +kernel
theorem dX0_init_1 : decode cX0_init 1 = .ok (.iload_n 1, 1) := by decide +kernel
theorem dX0_init_2 : decode cX0_init 2 = .ok (.iload_n 2, 1) := by decide +kernel
theorem dX0_init_3 : decode cX0_init 3 = .ok (.iload_n 3, 1) := by decide +kernel
theorem dX0_init_4 : decode cX0_init 4 = .ok (.iload 4, 2) := by decide +kernel
theorem dX0_init_6 : decode cX0_init 6 = .ok (.invokespecial 1, 3) := by decide +kernel
theorem dX0_init_9 : decode cX0_init 9 = .ok (.return_, 1) := by decide +kernel
theorem dX0_teachingCost_0 : decode cX0_teachingCost 0 = .ok (.aload_n 0, 1) := by decide +kernel
theorem dX0_teachingCost_1 : decode cX0_teachingCost 1 = .ok (.invokespecial 7, 3) := by decide +kernel
theorem dX0_teachingCost_4 : decode cX0_teachingCost 4 = .ok (.bipush 12, 2) := by decide +kernel
theorem dX0_teachingCost_6 : decode cX0_teachingCost 6 = .ok (.iadd, 1) := by decide +kernel
theorem dX0_teachingCost_7 : decode cX0_teachingCost 7 = .ok (.ireturn, 1) := by decide +kernel
theorem dX0_writes_0 : decode cX0_writes 0 = .ok (.aload_n 1, 1) := by decide +kernel
theorem dX0_writes_1 : decode cX0_writes 1 = .ok (.iload_n 2, 1) := by decide +kernel
theorem dX0_writes_2 : decode cX0_writes 2 = .ok (.iconst 0, 1) := by decide +kernel
theorem dX0_writes_3 : decode cX0_writes 3 = .ok (.invokevirtual 11, 3) := by decide +kernel
theorem dX0_writes_6 : decode cX0_writes 6 = .ok (.ireturn, 1) := by decide +kernel
theorem dX1_init_0 : decode cX1_init 0 = .ok (.aload_n 0, 1) := by decide +kernel
theorem dX1_init_1 : decode cX1_init 1 = .ok (.iload_n 1, 1) := by decide +kernel
theorem dX1_init_2 : decode cX1_init 2 = .ok (.iload_n 2, 1) := by decide +kernel
theorem dX1_init_3 : decode cX1_init 3 = .ok (.iload_n 3, 1) := by decide +kernel
theorem dX1_init_4 : decode cX1_init 4 = .ok (.iload 4, 2) := by decide +kernel
theorem dX1_init_6 : decode cX1_init 6 = .ok (.invokespecial 3, 3) := by decide +kernel
theorem dX1_init_9 : decode cX1_init 9 = .ok (.return_, 1) := by decide +kernel
theorem dX1_teachingCost_0 : decode cX1_teachingCost 0 = .ok (.aload_n 0, 1) := by decide +kernel
theorem dX1_teachingCost_1 : decode cX1_teachingCost 1 = .ok (.invokespecial 9, 3) := by decide +kernel
theorem dX1_teachingCost_4 : decode cX1_teachingCost 4 = .ok (.aload_n 0, 1) := by decide +kernel
theorem dX1_teachingCost_5 : decode cX1_teachingCost 5 = .ok (.getfield 13, 3) := by decide +kernel
theorem dX1_teachingCost_8 : decode cX1_teachingCost 8 = .ok (.iadd, 1) := by decide +kernel
theorem dX1_teachingCost_9 : decode cX1_teachingCost 9 = .ok (.ireturn, 1) := by decide +kernel
theorem dX1_writes_0 : decode cX1_writes 0 = .ok (.iload_n 3, 1) := by decide +kernel
theorem dX1_writes_1 : decode cX1_writes 1 = .ok (.bipush 10, 2) := by decide +kernel
theorem dX1_writes_3 : decode cX1_writes 3 = .ok (.iadd, 1) := by decide +kernel
theorem dX1_writes_4 : decode cX1_writes 4 = .ok (.iload 4, 2) := by decide +kernel
theorem dX1_writes_6 : decode cX1_writes 6 = .ok (.isub, 1) := by decide +kernel
theorem dX1_writes_7 : decode cX1_writes 7 = .ok (.ireturn, 1) := by decide +kernel
theorem dX2_init_0 : decode cX2_init 0 = .ok (.aload_n 0, 1) := by decide +kernel
theorem dX2_init_1 : decode cX2_init 1 = .ok (.iload_n 1, 1) := by decide +kernel
theorem dX2_init_2 : decode cX2_init 2 = .ok (.iload_n 2, 1) := by decide +kernel
theorem dX2_init_3 : decode cX2_init 3 = .ok (.iload_n 3, 1) := by decide +kernel
theorem dX2_init_4 : decode cX2_init 4 = .ok (.iload 4, 2) := by decide +kernel
theorem dX2_init_6 : decode cX2_init 6 = .ok (.invokespecial 1, 3) := by decide +kernel
theorem dX2_init_9 : decode cX2_init 9 = .ok (.return_, 1) := by decide +kernel
theorem dX2_teachingCost_0 : decode cX2_teachingCost 0 = .ok (.aload_n 0, 1) := by decide +kernel
theorem dX2_teachingCost_1 : decode cX2_teachingCost 1 = .ok (.invokespecial 7, 3) := by decide +kernel
theorem dX2_teachingCost_4 : decode cX2_teachingCost 4 = .ok (.iconst 5, 1) := by decide +kernel
theorem dX2_teachingCost_5 : decode cX2_teachingCost 5 = .ok (.iadd, 1) := by decide +kernel
theorem dX2_teachingCost_6 : decode cX2_teachingCost 6 = .ok (.ireturn, 1) := by decide +kernel
theorem dX2_writes_0 : decode cX2_writes 0 = .ok (.iconst 0, 1) := by decide +kernel
theorem dX2_writes_1 : decode cX2_writes 1 = .ok (.ireturn, 1) := by decide +kernel
theorem dX3_init_0 : decode cX3_init 0 = .ok (.aload_n 0, 1) := by decide +kernel
theorem dX3_init_1 : decode cX3_init 1 = .ok (.invokespecial 3, 3) := by decide +kernel
theorem dX3_init_4 : decode cX3_init 4 = .ok (.aload_n 0, 1) := by decide +kernel
theorem dX3_init_5 : decode cX3_init 5 = .ok (.iconst 4, 1) := by decide +kernel
theorem dX3_init_6 : decode cX3_init 6 = .ok (.newarray .int, 2) := by decide +kernel
theorem dX3_init_8 : decode cX3_init 8 = .ok (.putfield 9, 3) := by decide +kernel
theorem dX3_init_11 : decode cX3_init 11 = .ok (.aload_n 0, 1) := by decide +kernel
theorem dX3_init_12 : decode cX3_init 12 = .ok (.iconst 4, 1) := by decide +kernel
theorem dX3_init_13 : decode cX3_init 13 = .ok (.newarray .int, 2) := by decide +kernel
theorem dX3_init_15 : decode cX3_init 15 = .ok (.putfield 15, 3) := by decide +kernel
theorem dX3_init_18 : decode cX3_init 18 = .ok (.aload_n 0, 1) := by decide +kernel
theorem dX3_init_19 : decode cX3_init 19 = .ok (.iconst 4, 1) := by decide +kernel
theorem dX3_init_20 : decode cX3_init 20 = .ok (.newarray .int, 2) := by decide +kernel
theorem dX3_init_22 : decode cX3_init 22 = .ok (.putfield 18, 3) := by decide +kernel
theorem dX3_init_25 : decode cX3_init 25 = .ok (.return_, 1) := by decide +kernel
theorem dX3_workedBy_0 : decode cX3_workedBy 0 = .ok (.aload_n 1, 1) := by decide +kernel
theorem dX3_workedBy_1 : decode cX3_workedBy 1 = .ok (.ifnonnull 5, 3) := by decide +kernel
theorem dX3_workedBy_4 : decode cX3_workedBy 4 = .ok (.iconst (-1), 1) := by decide +kernel
theorem dX3_workedBy_5 : decode cX3_workedBy 5 = .ok (.ireturn, 1) := by decide +kernel
theorem dX3_workedBy_6 : decode cX3_workedBy 6 = .ok (.aload_n 0, 1) := by decide +kernel
theorem dX3_workedBy_7 : decode cX3_workedBy 7 = .ok (.getfield 9, 3) := by decide +kernel
theorem dX3_workedBy_10 : decode cX3_workedBy 10 = .ok (.iload_n 2, 1) := by decide +kernel
theorem dX3_workedBy_11 : decode cX3_workedBy 11 = .ok (.invokestatic 21, 3) := by decide +kernel
theorem dX3_workedBy_14 : decode cX3_workedBy 14 = .ok (.aload_n 0, 1) := by decide +kernel
theorem dX3_workedBy_15 : decode cX3_workedBy 15 = .ok (.getfield 15, 3) := by decide +kernel
theorem dX3_workedBy_18 : decode cX3_workedBy 18 = .ok (.iload_n 3, 1) := by decide +kernel
theorem dX3_workedBy_19 : decode cX3_workedBy 19 = .ok (.invokestatic 21, 3) := by decide +kernel
theorem dX3_workedBy_22 : decode cX3_workedBy 22 = .ok (.aload_n 0, 1) := by decide +kernel
theorem dX3_workedBy_23 : decode cX3_workedBy 23 = .ok (.iconst 0, 1) := by decide +kernel
theorem dX3_workedBy_24 : decode cX3_workedBy 24 = .ok (.putfield 25, 3) := by decide +kernel
theorem dX3_workedBy_27 : decode cX3_workedBy 27 = .ok (.iconst 0, 1) := by decide +kernel
theorem dX3_workedBy_28 : decode cX3_workedBy 28 = .ok (.istore 4, 2) := by decide +kernel
theorem dX3_workedBy_30 : decode cX3_workedBy 30 = .ok (.iconst 1, 1) := by decide +kernel
theorem dX3_workedBy_31 : decode cX3_workedBy 31 = .ok (.istore 5, 2) := by decide +kernel
theorem dX3_workedBy_33 : decode cX3_workedBy 33 = .ok (.iconst 0, 1) := by decide +kernel
theorem dX3_workedBy_34 : decode cX3_workedBy 34 = .ok (.istore 6, 2) := by decide +kernel
theorem dX3_workedBy_36 : decode cX3_workedBy 36 = .ok (.iload 6, 2) := by decide +kernel
theorem dX3_workedBy_38 : decode cX3_workedBy 38 = .ok (.iconst 4, 1) := by decide +kernel
theorem dX3_workedBy_39 : decode cX3_workedBy 39 = .ok (.if_icmp .ge 111, 3) := by decide +kernel
theorem dX3_workedBy_42 : decode cX3_workedBy 42 = .ok (.aload_n 0, 1) := by decide +kernel
theorem dX3_workedBy_43 : decode cX3_workedBy 43 = .ok (.getfield 18, 3) := by decide +kernel
theorem dX3_workedBy_46 : decode cX3_workedBy 46 = .ok (.iload 6, 2) := by decide +kernel
theorem dX3_workedBy_48 : decode cX3_workedBy 48 = .ok (.aload_n 0, 1) := by decide +kernel
theorem dX3_workedBy_49 : decode cX3_workedBy 49 = .ok (.getfield 9, 3) := by decide +kernel
theorem dX3_workedBy_52 : decode cX3_workedBy 52 = .ok (.iload 6, 2) := by decide +kernel
theorem dX3_workedBy_54 : decode cX3_workedBy 54 = .ok (.iaload, 1) := by decide +kernel
theorem dX3_workedBy_55 : decode cX3_workedBy 55 = .ok (.aload_n 0, 1) := by decide +kernel
theorem dX3_workedBy_56 : decode cX3_workedBy 56 = .ok (.getfield 15, 3) := by decide +kernel
theorem dX3_workedBy_59 : decode cX3_workedBy 59 = .ok (.iload 6, 2) := by decide +kernel
theorem dX3_workedBy_61 : decode cX3_workedBy 61 = .ok (.iaload, 1) := by decide +kernel
theorem dX3_workedBy_62 : decode cX3_workedBy 62 = .ok (.isub, 1) := by decide +kernel
theorem dX3_workedBy_63 : decode cX3_workedBy 63 = .ok (.iastore, 1) := by decide +kernel
theorem dX3_workedBy_64 : decode cX3_workedBy 64 = .ok (.aload_n 0, 1) := by decide +kernel
theorem dX3_workedBy_65 : decode cX3_workedBy 65 = .ok (.getfield 9, 3) := by decide +kernel
theorem dX3_workedBy_68 : decode cX3_workedBy 68 = .ok (.iload 6, 2) := by decide +kernel
theorem dX3_workedBy_70 : decode cX3_workedBy 70 = .ok (.iaload, 1) := by decide +kernel
theorem dX3_workedBy_71 : decode cX3_workedBy 71 = .ok (.aload_n 0, 1) := by decide +kernel
theorem dX3_workedBy_72 : decode cX3_workedBy 72 = .ok (.getfield 15, 3) := by decide +kernel
theorem dX3_workedBy_75 : decode cX3_workedBy 75 = .ok (.iload 6, 2) := by decide +kernel
theorem dX3_workedBy_77 : decode cX3_workedBy 77 = .ok (.iaload, 1) := by decide +kernel
theorem dX3_workedBy_78 : decode cX3_workedBy 78 = .ok (.if_icmp .ge 44, 3) := by decide +kernel
theorem dX3_workedBy_81 : decode cX3_workedBy 81 = .ok (.aload_n 0, 1) := by decide +kernel
theorem dX3_workedBy_82 : decode cX3_workedBy 82 = .ok (.dup, 1) := by decide +kernel
theorem dX3_workedBy_83 : decode cX3_workedBy 83 = .ok (.getfield 25, 3) := by decide +kernel
theorem dX3_workedBy_86 : decode cX3_workedBy 86 = .ok (.iconst 1, 1) := by decide +kernel
theorem dX3_workedBy_87 : decode cX3_workedBy 87 = .ok (.iload 6, 2) := by decide +kernel
theorem dX3_workedBy_89 : decode cX3_workedBy 89 = .ok (.ishl, 1) := by decide +kernel
theorem dX3_workedBy_90 : decode cX3_workedBy 90 = .ok (.ior, 1) := by decide +kernel
theorem dX3_workedBy_91 : decode cX3_workedBy 91 = .ok (.putfield 25, 3) := by decide +kernel
theorem dX3_workedBy_94 : decode cX3_workedBy 94 = .ok (.aload_n 0, 1) := by decide +kernel
theorem dX3_workedBy_95 : decode cX3_workedBy 95 = .ok (.getfield 18, 3) := by decide +kernel
theorem dX3_workedBy_98 : decode cX3_workedBy 98 = .ok (.iload 6, 2) := by decide +kernel
theorem dX3_workedBy_100 : decode cX3_workedBy 100 = .ok (.aload_n 1, 1) := by decide +kernel
theorem dX3_workedBy_101 : decode cX3_workedBy 101 = .ok (.aload_n 0, 1) := by decide +kernel
theorem dX3_workedBy_102 : decode cX3_workedBy 102 = .ok (.iload 6, 2) := by decide +kernel
theorem dX3_workedBy_104 : decode cX3_workedBy 104 = .ok (.aload_n 0, 1) := by decide +kernel
theorem dX3_workedBy_105 : decode cX3_workedBy 105 = .ok (.getfield 9, 3) := by decide +kernel
theorem dX3_workedBy_108 : decode cX3_workedBy 108 = .ok (.iload 6, 2) := by decide +kernel
theorem dX3_workedBy_110 : decode cX3_workedBy 110 = .ok (.iaload, 1) := by decide +kernel
theorem dX3_workedBy_111 : decode cX3_workedBy 111 = .ok (.aload_n 0, 1) := by decide +kernel
theorem dX3_workedBy_112 : decode cX3_workedBy 112 = .ok (.getfield 15, 3) := by decide +kernel
theorem dX3_workedBy_115 : decode cX3_workedBy 115 = .ok (.iload 6, 2) := by decide +kernel
theorem dX3_workedBy_117 : decode cX3_workedBy 117 = .ok (.iaload, 1) := by decide +kernel
theorem dX3_workedBy_118 : decode cX3_workedBy 118 = .ok (.invokevirtual 29, 3) := by decide +kernel
theorem dX3_workedBy_121 : decode cX3_workedBy 121 = .ok (.iastore, 1) := by decide +kernel
theorem dX3_workedBy_122 : decode cX3_workedBy 122 = .ok (.iload 4, 2) := by decide +kernel
theorem dX3_workedBy_124 : decode cX3_workedBy 124 = .ok (.aload_n 0, 1) := by decide +kernel
theorem dX3_workedBy_125 : decode cX3_workedBy 125 = .ok (.getfield 18, 3) := by decide +kernel
theorem dX3_workedBy_128 : decode cX3_workedBy 128 = .ok (.iload 6, 2) := by decide +kernel
theorem dX3_workedBy_130 : decode cX3_workedBy 130 = .ok (.iaload, 1) := by decide +kernel
theorem dX3_workedBy_131 : decode cX3_workedBy 131 = .ok (.iload 5, 2) := by decide +kernel
theorem dX3_workedBy_133 : decode cX3_workedBy 133 = .ok (.imul, 1) := by decide +kernel
theorem dX3_workedBy_134 : decode cX3_workedBy 134 = .ok (.iadd, 1) := by decide +kernel
theorem dX3_workedBy_135 : decode cX3_workedBy 135 = .ok (.istore 4, 2) := by decide +kernel
theorem dX3_workedBy_137 : decode cX3_workedBy 137 = .ok (.iload 5, 2) := by decide +kernel
theorem dX3_workedBy_139 : decode cX3_workedBy 139 = .ok (.bipush 10, 2) := by decide +kernel
theorem dX3_workedBy_141 : decode cX3_workedBy 141 = .ok (.imul, 1) := by decide +kernel
theorem dX3_workedBy_142 : decode cX3_workedBy 142 = .ok (.istore 5, 2) := by decide +kernel
theorem dX3_workedBy_144 : decode cX3_workedBy 144 = .ok (.iinc 6 1, 3) := by decide +kernel
theorem dX3_workedBy_147 : decode cX3_workedBy 147 = .ok (.goto (-111), 3) := by decide +kernel
theorem dX3_workedBy_150 : decode cX3_workedBy 150 = .ok (.iload 4, 2) := by decide +kernel
theorem dX3_workedBy_152 : decode cX3_workedBy 152 = .ok (.ireturn, 1) := by decide +kernel
theorem dX3_layOut_0 : decode cX3_layOut 0 = .ok (.iload_n 1, 1) := by decide +kernel
theorem dX3_layOut_1 : decode cX3_layOut 1 = .ok (.istore_n 2, 1) := by decide +kernel
theorem dX3_layOut_2 : decode cX3_layOut 2 = .ok (.iconst 0, 1) := by decide +kernel
theorem dX3_layOut_3 : decode cX3_layOut 3 = .ok (.istore_n 3, 1) := by decide +kernel
theorem dX3_layOut_4 : decode cX3_layOut 4 = .ok (.iload_n 3, 1) := by decide +kernel
theorem dX3_layOut_5 : decode cX3_layOut 5 = .ok (.aload_n 0, 1) := by decide +kernel
theorem dX3_layOut_6 : decode cX3_layOut 6 = .ok (.arraylength, 1) := by decide +kernel
theorem dX3_layOut_7 : decode cX3_layOut 7 = .ok (.if_icmp .ge 21, 3) := by decide +kernel
theorem dX3_layOut_10 : decode cX3_layOut 10 = .ok (.aload_n 0, 1) := by decide +kernel
theorem dX3_layOut_11 : decode cX3_layOut 11 = .ok (.iload_n 3, 1) := by decide +kernel
theorem dX3_layOut_12 : decode cX3_layOut 12 = .ok (.iload_n 2, 1) := by decide +kernel
theorem dX3_layOut_13 : decode cX3_layOut 13 = .ok (.bipush 10, 2) := by decide +kernel
theorem dX3_layOut_15 : decode cX3_layOut 15 = .ok (.irem, 1) := by decide +kernel
theorem dX3_layOut_16 : decode cX3_layOut 16 = .ok (.iastore, 1) := by decide +kernel
theorem dX3_layOut_17 : decode cX3_layOut 17 = .ok (.iload_n 2, 1) := by decide +kernel
theorem dX3_layOut_18 : decode cX3_layOut 18 = .ok (.bipush 10, 2) := by decide +kernel
theorem dX3_layOut_20 : decode cX3_layOut 20 = .ok (.idiv, 1) := by decide +kernel
theorem dX3_layOut_21 : decode cX3_layOut 21 = .ok (.istore_n 2, 1) := by decide +kernel
theorem dX3_layOut_22 : decode cX3_layOut 22 = .ok (.iinc 3 1, 3) := by decide +kernel
theorem dX3_layOut_25 : decode cX3_layOut 25 = .ok (.goto (-21), 3) := by decide +kernel
theorem dX3_layOut_28 : decode cX3_layOut 28 = .ok (.return_, 1) := by decide +kernel
theorem dX3_borrowed_0 : decode cX3_borrowed 0 = .ok (.iload_n 1, 1) := by decide +kernel
theorem dX3_borrowed_1 : decode cX3_borrowed 1 = .ok (.iconst 1, 1) := by decide +kernel
theorem dX3_borrowed_2 : decode cX3_borrowed 2 = .ok (.iadd, 1) := by decide +kernel
theorem dX3_borrowed_3 : decode cX3_borrowed 3 = .ok (.istore_n 3, 1) := by decide +kernel
theorem dX3_borrowed_4 : decode cX3_borrowed 4 = .ok (.iload_n 1, 1) := by decide +kernel
theorem dX3_borrowed_5 : decode cX3_borrowed 5 = .ok (.ifCond .lt 80, 3) := by decide +kernel
theorem dX3_borrowed_8 : decode cX3_borrowed 8 = .ok (.iload_n 3, 1) := by decide +kernel
theorem dX3_borrowed_9 : decode cX3_borrowed 9 = .ok (.iconst 4, 1) := by decide +kernel
theorem dX3_borrowed_10 : decode cX3_borrowed 10 = .ok (.if_icmp .ge 75, 3) := by decide +kernel
theorem dX3_borrowed_13 : decode cX3_borrowed 13 = .ok (.aload_n 0, 1) := by decide +kernel
theorem dX3_borrowed_14 : decode cX3_borrowed 14 = .ok (.getfield 9, 3) := by decide +kernel
theorem dX3_borrowed_17 : decode cX3_borrowed 17 = .ok (.iload_n 3, 1) := by decide +kernel
theorem dX3_borrowed_18 : decode cX3_borrowed 18 = .ok (.iaload, 1) := by decide +kernel
theorem dX3_borrowed_19 : decode cX3_borrowed 19 = .ok (.ifCond .le 60, 3) := by decide +kernel
theorem dX3_borrowed_22 : decode cX3_borrowed 22 = .ok (.aload_n 0, 1) := by decide +kernel
theorem dX3_borrowed_23 : decode cX3_borrowed 23 = .ok (.getfield 9, 3) := by decide +kernel
theorem dX3_borrowed_26 : decode cX3_borrowed 26 = .ok (.iload_n 3, 1) := by decide +kernel
theorem dX3_borrowed_27 : decode cX3_borrowed 27 = .ok (.dup2, 1) := by decide +kernel
theorem dX3_borrowed_28 : decode cX3_borrowed 28 = .ok (.iaload, 1) := by decide +kernel
theorem dX3_borrowed_29 : decode cX3_borrowed 29 = .ok (.iconst 1, 1) := by decide +kernel
theorem dX3_borrowed_30 : decode cX3_borrowed 30 = .ok (.isub, 1) := by decide +kernel
theorem dX3_borrowed_31 : decode cX3_borrowed 31 = .ok (.iastore, 1) := by decide +kernel
theorem dX3_borrowed_32 : decode cX3_borrowed 32 = .ok (.iload_n 1, 1) := by decide +kernel
theorem dX3_borrowed_33 : decode cX3_borrowed 33 = .ok (.iconst 1, 1) := by decide +kernel
theorem dX3_borrowed_34 : decode cX3_borrowed 34 = .ok (.iadd, 1) := by decide +kernel
theorem dX3_borrowed_35 : decode cX3_borrowed 35 = .ok (.istore 4, 2) := by decide +kernel
theorem dX3_borrowed_37 : decode cX3_borrowed 37 = .ok (.iload_n 2, 1) := by decide +kernel
theorem dX3_borrowed_38 : decode cX3_borrowed 38 = .ok (.ifCond .eq 24, 3) := by decide +kernel
theorem dX3_borrowed_41 : decode cX3_borrowed 41 = .ok (.iload 4, 2) := by decide +kernel
theorem dX3_borrowed_43 : decode cX3_borrowed 43 = .ok (.iload_n 3, 1) := by decide +kernel
theorem dX3_borrowed_44 : decode cX3_borrowed 44 = .ok (.if_icmp .ge 18, 3) := by decide +kernel
theorem dX3_borrowed_47 : decode cX3_borrowed 47 = .ok (.aload_n 0, 1) := by decide +kernel
theorem dX3_borrowed_48 : decode cX3_borrowed 48 = .ok (.getfield 9, 3) := by decide +kernel
theorem dX3_borrowed_51 : decode cX3_borrowed 51 = .ok (.iload 4, 2) := by decide +kernel
theorem dX3_borrowed_53 : decode cX3_borrowed 53 = .ok (.bipush 9, 2) := by decide +kernel
theorem dX3_borrowed_55 : decode cX3_borrowed 55 = .ok (.iastore, 1) := by decide +kernel
theorem dX3_borrowed_56 : decode cX3_borrowed 56 = .ok (.iinc 4 1, 3) := by decide +kernel
theorem dX3_borrowed_59 : decode cX3_borrowed 59 = .ok (.goto (-22), 3) := by decide +kernel
theorem dX3_borrowed_62 : decode cX3_borrowed 62 = .ok (.aload_n 0, 1) := by decide +kernel
theorem dX3_borrowed_63 : decode cX3_borrowed 63 = .ok (.getfield 9, 3) := by decide +kernel
theorem dX3_borrowed_66 : decode cX3_borrowed 66 = .ok (.iload_n 1, 1) := by decide +kernel
theorem dX3_borrowed_67 : decode cX3_borrowed 67 = .ok (.iaload, 1) := by decide +kernel
theorem dX3_borrowed_68 : decode cX3_borrowed 68 = .ok (.bipush 10, 2) := by decide +kernel
theorem dX3_borrowed_70 : decode cX3_borrowed 70 = .ok (.iadd, 1) := by decide +kernel
theorem dX3_borrowed_71 : decode cX3_borrowed 71 = .ok (.aload_n 0, 1) := by decide +kernel
theorem dX3_borrowed_72 : decode cX3_borrowed 72 = .ok (.getfield 15, 3) := by decide +kernel
theorem dX3_borrowed_75 : decode cX3_borrowed 75 = .ok (.iload_n 1, 1) := by decide +kernel
theorem dX3_borrowed_76 : decode cX3_borrowed 76 = .ok (.iaload, 1) := by decide +kernel
theorem dX3_borrowed_77 : decode cX3_borrowed 77 = .ok (.isub, 1) := by decide +kernel
theorem dX3_borrowed_78 : decode cX3_borrowed 78 = .ok (.ireturn, 1) := by decide +kernel
theorem dX3_borrowed_79 : decode cX3_borrowed 79 = .ok (.iinc 3 1, 3) := by decide +kernel
theorem dX3_borrowed_82 : decode cX3_borrowed 82 = .ok (.goto (-78), 3) := by decide +kernel
theorem dX3_borrowed_85 : decode cX3_borrowed 85 = .ok (.iconst 0, 1) := by decide +kernel
theorem dX3_borrowed_86 : decode cX3_borrowed 86 = .ok (.ireturn, 1) := by decide +kernel
theorem dX4_init_0 : decode cX4_init 0 = .ok (.aload_n 0, 1) := by decide +kernel
theorem dX4_init_1 : decode cX4_init 1 = .ok (.iload_n 1, 1) := by decide +kernel
theorem dX4_init_2 : decode cX4_init 2 = .ok (.iload_n 2, 1) := by decide +kernel
theorem dX4_init_3 : decode cX4_init 3 = .ok (.iload_n 3, 1) := by decide +kernel
theorem dX4_init_4 : decode cX4_init 4 = .ok (.iload 4, 2) := by decide +kernel
theorem dX4_init_6 : decode cX4_init 6 = .ok (.invokespecial 3, 3) := by decide +kernel
theorem dX4_init_9 : decode cX4_init 9 = .ok (.return_, 1) := by decide +kernel
theorem dX4_teachingCost_0 : decode cX4_teachingCost 0 = .ok (.aload_n 0, 1) := by decide +kernel
theorem dX4_teachingCost_1 : decode cX4_teachingCost 1 = .ok (.invokespecial 9, 3) := by decide +kernel
theorem dX4_teachingCost_4 : decode cX4_teachingCost 4 = .ok (.aload_n 0, 1) := by decide +kernel
theorem dX4_teachingCost_5 : decode cX4_teachingCost 5 = .ok (.getfield 13, 3) := by decide +kernel
theorem dX4_teachingCost_8 : decode cX4_teachingCost 8 = .ok (.iadd, 1) := by decide +kernel
theorem dX4_teachingCost_9 : decode cX4_teachingCost 9 = .ok (.ireturn, 1) := by decide +kernel
theorem dX4_writes_0 : decode cX4_writes 0 = .ok (.aload_n 1, 1) := by decide +kernel
theorem dX4_writes_1 : decode cX4_writes 1 = .ok (.getfield 19, 3) := by decide +kernel
theorem dX4_writes_4 : decode cX4_writes 4 = .ok (.iload_n 2, 1) := by decide +kernel
theorem dX4_writes_5 : decode cX4_writes 5 = .ok (.iconst 1, 1) := by decide +kernel
theorem dX4_writes_6 : decode cX4_writes 6 = .ok (.iadd, 1) := by decide +kernel
theorem dX4_writes_7 : decode cX4_writes 7 = .ok (.invokestatic 25, 3) := by decide +kernel
theorem dX4_writes_10 : decode cX4_writes 10 = .ok (.ifCond .le 13, 3) := by decide +kernel
theorem dX4_writes_13 : decode cX4_writes 13 = .ok (.aload_n 0, 1) := by decide +kernel
theorem dX4_writes_14 : decode cX4_writes 14 = .ok (.aload_n 1, 1) := by decide +kernel
theorem dX4_writes_15 : decode cX4_writes 15 = .ok (.iload_n 2, 1) := by decide +kernel
theorem dX4_writes_16 : decode cX4_writes 16 = .ok (.iload_n 3, 1) := by decide +kernel
theorem dX4_writes_17 : decode cX4_writes 17 = .ok (.iload 4, 2) := by decide +kernel
theorem dX4_writes_19 : decode cX4_writes 19 = .ok (.invokespecial 29, 3) := by decide +kernel
theorem dX4_writes_22 : decode cX4_writes 22 = .ok (.ireturn, 1) := by decide +kernel
theorem dX4_writes_23 : decode cX4_writes 23 = .ok (.aload_n 0, 1) := by decide +kernel
theorem dX4_writes_24 : decode cX4_writes 24 = .ok (.getfield 13, 3) := by decide +kernel
theorem dX4_writes_27 : decode cX4_writes 27 = .ok (.iconst 4, 1) := by decide +kernel
theorem dX4_writes_28 : decode cX4_writes 28 = .ok (.irem, 1) := by decide +kernel
theorem dX4_writes_29 : decode cX4_writes 29 = .ok (.tableswitch 42 0 2 #[27, 29, 34], 27) := by decide +kernel
theorem dX4_writes_56 : decode cX4_writes 56 = .ok (.iconst 0, 1) := by decide +kernel
theorem dX4_writes_57 : decode cX4_writes 57 = .ok (.ireturn, 1) := by decide +kernel
theorem dX4_writes_58 : decode cX4_writes 58 = .ok (.iload 4, 2) := by decide +kernel
theorem dX4_writes_60 : decode cX4_writes 60 = .ok (.iload_n 3, 1) := by decide +kernel
theorem dX4_writes_61 : decode cX4_writes 61 = .ok (.isub, 1) := by decide +kernel
theorem dX4_writes_62 : decode cX4_writes 62 = .ok (.ireturn, 1) := by decide +kernel
theorem dX4_writes_63 : decode cX4_writes 63 = .ok (.iload_n 3, 1) := by decide +kernel
theorem dX4_writes_64 : decode cX4_writes 64 = .ok (.bipush 10, 2) := by decide +kernel
theorem dX4_writes_66 : decode cX4_writes 66 = .ok (.iadd, 1) := by decide +kernel
theorem dX4_writes_67 : decode cX4_writes 67 = .ok (.iload 4, 2) := by decide +kernel
theorem dX4_writes_69 : decode cX4_writes 69 = .ok (.isub, 1) := by decide +kernel
theorem dX4_writes_70 : decode cX4_writes 70 = .ok (.ireturn, 1) := by decide +kernel
theorem dX4_writes_71 : decode cX4_writes 71 = .ok (.iload 4, 2) := by decide +kernel
theorem dX4_writes_73 : decode cX4_writes 73 = .ok (.ireturn, 1) := by decide +kernel
theorem dX4_fail_0 : decode cX4_fail 0 = .ok (.new 33, 3) := by decide +kernel
theorem dX4_fail_3 : decode cX4_fail 3 = .ok (.dup, 1) := by decide +kernel
theorem dX4_fail_4 : decode cX4_fail 4 = .ok (.ldc 35, 2) := by decide +kernel
theorem dX4_fail_6 : decode cX4_fail 6 = .ok (.invokespecial 37, 3) := by decide +kernel
theorem dX4_fail_9 : decode cX4_fail 9 = .ok (.athrow, 1) := by decide +kernel
theorem dX5_init_0 : decode cX5_init 0 = .ok (.aload_n 0, 1) := by decide +kernel
theorem dX5_init_1 : decode cX5_init 1 = .ok (.invokespecial 3, 3) := by decide +kernel
theorem dX5_init_4 : decode cX5_init 4 = .ok (.aload_n 0, 1) := by decide +kernel
theorem dX5_init_5 : decode cX5_init 5 = .ok (.bipush 10, 2) := by decide +kernel
theorem dX5_init_7 : decode cX5_init 7 = .ok (.anewarray 9, 3) := by decide +kernel
theorem dX5_init_10 : decode cX5_init 10 = .ok (.putfield 11, 3) := by decide +kernel
theorem dX5_init_13 : decode cX5_init 13 = .ok (.aload_n 0, 1) := by decide +kernel
theorem dX5_init_14 : decode cX5_init 14 = .ok (.bipush 8, 2) := by decide +kernel
theorem dX5_init_16 : decode cX5_init 16 = .ok (.newarray .int, 2) := by decide +kernel
theorem dX5_init_18 : decode cX5_init 18 = .ok (.putfield 17, 3) := by decide +kernel
theorem dX5_init_21 : decode cX5_init 21 = .ok (.aload_n 0, 1) := by decide +kernel
theorem dX5_init_22 : decode cX5_init 22 = .ok (.bipush 8, 2) := by decide +kernel
theorem dX5_init_24 : decode cX5_init 24 = .ok (.newarray .int, 2) := by decide +kernel
theorem dX5_init_26 : decode cX5_init 26 = .ok (.putfield 21, 3) := by decide +kernel
theorem dX5_init_29 : decode cX5_init 29 = .ok (.aload_n 0, 1) := by decide +kernel
theorem dX5_init_30 : decode cX5_init 30 = .ok (.bipush 8, 2) := by decide +kernel
theorem dX5_init_32 : decode cX5_init 32 = .ok (.newarray .int, 2) := by decide +kernel
theorem dX5_init_34 : decode cX5_init 34 = .ok (.putfield 24, 3) := by decide +kernel
theorem dX5_init_37 : decode cX5_init 37 = .ok (.aload_n 0, 1) := by decide +kernel
theorem dX5_init_38 : decode cX5_init 38 = .ok (.bipush 100, 2) := by decide +kernel
theorem dX5_init_40 : decode cX5_init 40 = .ok (.newarray .int, 2) := by decide +kernel
theorem dX5_init_42 : decode cX5_init 42 = .ok (.putfield 27, 3) := by decide +kernel
theorem dX5_init_45 : decode cX5_init 45 = .ok (.aload_n 0, 1) := by decide +kernel
theorem dX5_init_46 : decode cX5_init 46 = .ok (.iconst 3, 1) := by decide +kernel
theorem dX5_init_47 : decode cX5_init 47 = .ok (.newarray .int, 2) := by decide +kernel
theorem dX5_init_49 : decode cX5_init 49 = .ok (.putfield 30, 3) := by decide +kernel
theorem dX5_init_52 : decode cX5_init 52 = .ok (.return_, 1) := by decide +kernel
theorem dX5_wayAt_0 : decode cX5_wayAt 0 = .ok (.iload_n 1, 1) := by decide +kernel
theorem dX5_wayAt_1 : decode cX5_wayAt 1 = .ok (.ifCond .lt 26, 3) := by decide +kernel
theorem dX5_wayAt_4 : decode cX5_wayAt 4 = .ok (.iload_n 1, 1) := by decide +kernel
theorem dX5_wayAt_5 : decode cX5_wayAt 5 = .ok (.aload_n 0, 1) := by decide +kernel
theorem dX5_wayAt_6 : decode cX5_wayAt 6 = .ok (.getfield 33, 3) := by decide +kernel
theorem dX5_wayAt_9 : decode cX5_wayAt 9 = .ok (.if_icmp .ge 18, 3) := by decide +kernel
theorem dX5_wayAt_12 : decode cX5_wayAt 12 = .ok (.iload_n 1, 1) := by decide +kernel
theorem dX5_wayAt_13 : decode cX5_wayAt 13 = .ok (.bipush 10, 2) := by decide +kernel
theorem dX5_wayAt_15 : decode cX5_wayAt 15 = .ok (.if_icmp .ge 12, 3) := by decide +kernel
theorem dX5_wayAt_18 : decode cX5_wayAt 18 = .ok (.aload_n 0, 1) := by decide +kernel
theorem dX5_wayAt_19 : decode cX5_wayAt 19 = .ok (.getfield 11, 3) := by decide +kernel
theorem dX5_wayAt_22 : decode cX5_wayAt 22 = .ok (.iload_n 1, 1) := by decide +kernel
theorem dX5_wayAt_23 : decode cX5_wayAt 23 = .ok (.aaload, 1) := by decide +kernel
theorem dX5_wayAt_24 : decode cX5_wayAt 24 = .ok (.goto 4, 3) := by decide +kernel
theorem dX5_wayAt_27 : decode cX5_wayAt 27 = .ok (.aconst_null, 1) := by decide +kernel
theorem dX5_wayAt_28 : decode cX5_wayAt 28 = .ok (.areturn, 1) := by decide +kernel
theorem dX5_hasWay_0 : decode cX5_hasWay 0 = .ok (.aload_n 0, 1) := by decide +kernel
theorem dX5_hasWay_1 : decode cX5_hasWay 1 = .ok (.iload_n 1, 1) := by decide +kernel
theorem dX5_hasWay_2 : decode cX5_hasWay 2 = .ok (.invokevirtual 37, 3) := by decide +kernel
theorem dX5_hasWay_5 : decode cX5_hasWay 5 = .ok (.ifnull 7, 3) := by decide +kernel
theorem dX5_hasWay_8 : decode cX5_hasWay 8 = .ok (.iconst 1, 1) := by decide +kernel
theorem dX5_hasWay_9 : decode cX5_hasWay 9 = .ok (.goto 4, 3) := by decide +kernel
theorem dX5_hasWay_12 : decode cX5_hasWay 12 = .ok (.iconst 0, 1) := by decide +kernel
theorem dX5_hasWay_13 : decode cX5_hasWay 13 = .ok (.ireturn, 1) := by decide +kernel
theorem dX5_allWays_0 : decode cX5_allWays 0 = .ok (.iconst 1, 1) := by decide +kernel
theorem dX5_allWays_1 : decode cX5_allWays 1 = .ok (.aload_n 0, 1) := by decide +kernel
theorem dX5_allWays_2 : decode cX5_allWays 2 = .ok (.getfield 33, 3) := by decide +kernel
theorem dX5_allWays_5 : decode cX5_allWays 5 = .ok (.ishl, 1) := by decide +kernel
theorem dX5_allWays_6 : decode cX5_allWays 6 = .ok (.iconst 1, 1) := by decide +kernel
theorem dX5_allWays_7 : decode cX5_allWays 7 = .ok (.isub, 1) := by decide +kernel
theorem dX5_allWays_8 : decode cX5_allWays 8 = .ok (.ireturn, 1) := by decide +kernel
theorem dX5_hasWays_0 : decode cX5_hasWays 0 = .ok (.iload_n 1, 1) := by decide +kernel
theorem dX5_hasWays_1 : decode cX5_hasWays 1 = .ok (.aload_n 0, 1) := by decide +kernel
theorem dX5_hasWays_2 : decode cX5_hasWays 2 = .ok (.invokevirtual 41, 3) := by decide +kernel
theorem dX5_hasWays_5 : decode cX5_hasWays 5 = .ok (.iconst (-1), 1) := by decide +kernel
theorem dX5_hasWays_6 : decode cX5_hasWays 6 = .ok (.ixor, 1) := by decide +kernel
theorem dX5_hasWays_7 : decode cX5_hasWays 7 = .ok (.iand, 1) := by decide +kernel
theorem dX5_hasWays_8 : decode cX5_hasWays 8 = .ok (.ifCond .ne 7, 3) := by decide +kernel
theorem dX5_hasWays_11 : decode cX5_hasWays 11 = .ok (.iconst 1, 1) := by decide +kernel
theorem dX5_hasWays_12 : decode cX5_hasWays 12 = .ok (.goto 4, 3) := by decide +kernel
theorem dX5_hasWays_15 : decode cX5_hasWays 15 = .ok (.iconst 0, 1) := by decide +kernel
theorem dX5_hasWays_16 : decode cX5_hasWays 16 = .ok (.ireturn, 1) := by decide +kernel
theorem dX5_hasChild_0 : decode cX5_hasChild 0 = .ok (.iload_n 1, 1) := by decide +kernel
theorem dX5_hasChild_1 : decode cX5_hasChild 1 = .ok (.ifCond .lt 15, 3) := by decide +kernel
theorem dX5_hasChild_4 : decode cX5_hasChild 4 = .ok (.iload_n 1, 1) := by decide +kernel
theorem dX5_hasChild_5 : decode cX5_hasChild 5 = .ok (.aload_n 0, 1) := by decide +kernel
theorem dX5_hasChild_6 : decode cX5_hasChild 6 = .ok (.getfield 45, 3) := by decide +kernel
theorem dX5_hasChild_9 : decode cX5_hasChild 9 = .ok (.if_icmp .ge 7, 3) := by decide +kernel
theorem dX5_hasChild_12 : decode cX5_hasChild 12 = .ok (.iconst 1, 1) := by decide +kernel
theorem dX5_hasChild_13 : decode cX5_hasChild 13 = .ok (.goto 4, 3) := by decide +kernel
theorem dX5_hasChild_16 : decode cX5_hasChild 16 = .ok (.iconst 0, 1) := by decide +kernel
theorem dX5_hasChild_17 : decode cX5_hasChild 17 = .ok (.ireturn, 1) := by decide +kernel
theorem dX5_kindOf_0 : decode cX5_kindOf 0 = .ok (.aload_n 0, 1) := by decide +kernel
theorem dX5_kindOf_1 : decode cX5_kindOf 1 = .ok (.iload_n 1, 1) := by decide +kernel
theorem dX5_kindOf_2 : decode cX5_kindOf 2 = .ok (.invokevirtual 37, 3) := by decide +kernel
theorem dX5_kindOf_5 : decode cX5_kindOf 5 = .ok (.astore_n 2, 1) := by decide +kernel
theorem dX5_kindOf_6 : decode cX5_kindOf 6 = .ok (.aload_n 2, 1) := by decide +kernel
theorem dX5_kindOf_7 : decode cX5_kindOf 7 = .ok (.ifnonnull 7, 3) := by decide +kernel
theorem dX5_kindOf_10 : decode cX5_kindOf 10 = .ok (.iconst (-1), 1) := by decide +kernel
theorem dX5_kindOf_11 : decode cX5_kindOf 11 = .ok (.goto 7, 3) := by decide +kernel
theorem dX5_kindOf_14 : decode cX5_kindOf 14 = .ok (.aload_n 2, 1) := by decide +kernel
theorem dX5_kindOf_15 : decode cX5_kindOf 15 = .ok (.getfield 48, 3) := by decide +kernel
theorem dX5_kindOf_18 : decode cX5_kindOf 18 = .ok (.ireturn, 1) := by decide +kernel
theorem dX5_weightOf_0 : decode cX5_weightOf 0 = .ok (.aload_n 0, 1) := by decide +kernel
theorem dX5_weightOf_1 : decode cX5_weightOf 1 = .ok (.iload_n 1, 1) := by decide +kernel
theorem dX5_weightOf_2 : decode cX5_weightOf 2 = .ok (.invokevirtual 37, 3) := by decide +kernel
theorem dX5_weightOf_5 : decode cX5_weightOf 5 = .ok (.astore_n 2, 1) := by decide +kernel
theorem dX5_weightOf_6 : decode cX5_weightOf 6 = .ok (.aload_n 2, 1) := by decide +kernel
theorem dX5_weightOf_7 : decode cX5_weightOf 7 = .ok (.ifnonnull 7, 3) := by decide +kernel
theorem dX5_weightOf_10 : decode cX5_weightOf 10 = .ok (.iconst 0, 1) := by decide +kernel
theorem dX5_weightOf_11 : decode cX5_weightOf 11 = .ok (.goto 7, 3) := by decide +kernel
theorem dX5_weightOf_14 : decode cX5_weightOf 14 = .ok (.aload_n 2, 1) := by decide +kernel
theorem dX5_weightOf_15 : decode cX5_weightOf 15 = .ok (.getfield 51, 3) := by decide +kernel
theorem dX5_weightOf_18 : decode cX5_weightOf 18 = .ok (.ireturn, 1) := by decide +kernel
theorem dX5_toldBy_0 : decode cX5_toldBy 0 = .ok (.iload_n 1, 1) := by decide +kernel
theorem dX5_toldBy_1 : decode cX5_toldBy 1 = .ok (.ifCond .lt 17, 3) := by decide +kernel
theorem dX5_toldBy_4 : decode cX5_toldBy 4 = .ok (.iload_n 1, 1) := by decide +kernel
theorem dX5_toldBy_5 : decode cX5_toldBy 5 = .ok (.bipush 10, 2) := by decide +kernel
theorem dX5_toldBy_7 : decode cX5_toldBy 7 = .ok (.if_icmp .ge 11, 3) := by decide +kernel
theorem dX5_toldBy_10 : decode cX5_toldBy 10 = .ok (.aload_n 0, 1) := by decide +kernel
theorem dX5_toldBy_11 : decode cX5_toldBy 11 = .ok (.iload_n 2, 1) := by decide +kernel
theorem dX5_toldBy_12 : decode cX5_toldBy 12 = .ok (.invokevirtual 54, 3) := by decide +kernel
theorem dX5_toldBy_15 : decode cX5_toldBy 15 = .ok (.ifCond .ne 5, 3) := by decide +kernel
theorem dX5_toldBy_18 : decode cX5_toldBy 18 = .ok (.iconst (-1), 1) := by decide +kernel
theorem dX5_toldBy_19 : decode cX5_toldBy 19 = .ok (.ireturn, 1) := by decide +kernel
theorem dX5_toldBy_20 : decode cX5_toldBy 20 = .ok (.aload_n 0, 1) := by decide +kernel
theorem dX5_toldBy_21 : decode cX5_toldBy 21 = .ok (.getfield 27, 3) := by decide +kernel
theorem dX5_toldBy_24 : decode cX5_toldBy 24 = .ok (.iload_n 1, 1) := by decide +kernel
theorem dX5_toldBy_25 : decode cX5_toldBy 25 = .ok (.bipush 10, 2) := by decide +kernel
theorem dX5_toldBy_27 : decode cX5_toldBy 27 = .ok (.imul, 1) := by decide +kernel
theorem dX5_toldBy_28 : decode cX5_toldBy 28 = .ok (.iload_n 2, 1) := by decide +kernel
theorem dX5_toldBy_29 : decode cX5_toldBy 29 = .ok (.iadd, 1) := by decide +kernel
theorem dX5_toldBy_30 : decode cX5_toldBy 30 = .ok (.invokestatic 58, 3) := by decide +kernel
theorem dX5_toldBy_33 : decode cX5_toldBy 33 = .ok (.istore_n 3, 1) := by decide +kernel
theorem dX5_toldBy_34 : decode cX5_toldBy 34 = .ok (.iload_n 3, 1) := by decide +kernel
theorem dX5_toldBy_35 : decode cX5_toldBy 35 = .ok (.ifCond .ne 7, 3) := by decide +kernel
theorem dX5_toldBy_38 : decode cX5_toldBy 38 = .ok (.iload_n 2, 1) := by decide +kernel
theorem dX5_toldBy_39 : decode cX5_toldBy 39 = .ok (.goto 6, 3) := by decide +kernel
theorem dX5_toldBy_42 : decode cX5_toldBy 42 = .ok (.iload_n 3, 1) := by decide +kernel
theorem dX5_toldBy_43 : decode cX5_toldBy 43 = .ok (.iconst 1, 1) := by decide +kernel
theorem dX5_toldBy_44 : decode cX5_toldBy 44 = .ok (.isub, 1) := by decide +kernel
theorem dX5_toldBy_45 : decode cX5_toldBy 45 = .ok (.ireturn, 1) := by decide +kernel
theorem dX5_toldCount_0 : decode cX5_toldCount 0 = .ok (.iconst 0, 1) := by decide +kernel
theorem dX5_toldCount_1 : decode cX5_toldCount 1 = .ok (.istore_n 1, 1) := by decide +kernel
theorem dX5_toldCount_2 : decode cX5_toldCount 2 = .ok (.iconst 0, 1) := by decide +kernel
theorem dX5_toldCount_3 : decode cX5_toldCount 3 = .ok (.istore_n 2, 1) := by decide +kernel
theorem dX5_toldCount_4 : decode cX5_toldCount 4 = .ok (.iload_n 2, 1) := by decide +kernel
theorem dX5_toldCount_5 : decode cX5_toldCount 5 = .ok (.aload_n 0, 1) := by decide +kernel
theorem dX5_toldCount_6 : decode cX5_toldCount 6 = .ok (.getfield 27, 3) := by decide +kernel
theorem dX5_toldCount_9 : decode cX5_toldCount 9 = .ok (.arraylength, 1) := by decide +kernel
theorem dX5_toldCount_10 : decode cX5_toldCount 10 = .ok (.if_icmp .ge 21, 3) := by decide +kernel
theorem dX5_toldCount_13 : decode cX5_toldCount 13 = .ok (.aload_n 0, 1) := by decide +kernel
theorem dX5_toldCount_14 : decode cX5_toldCount 14 = .ok (.getfield 27, 3) := by decide +kernel
theorem dX5_toldCount_17 : decode cX5_toldCount 17 = .ok (.iload_n 2, 1) := by decide +kernel
theorem dX5_toldCount_18 : decode cX5_toldCount 18 = .ok (.iaload, 1) := by decide +kernel
theorem dX5_toldCount_19 : decode cX5_toldCount 19 = .ok (.ifCond .eq 6, 3) := by decide +kernel
theorem dX5_toldCount_22 : decode cX5_toldCount 22 = .ok (.iinc 1 1, 3) := by decide +kernel
theorem dX5_toldCount_25 : decode cX5_toldCount 25 = .ok (.iinc 2 1, 3) := by decide +kernel
theorem dX5_toldCount_28 : decode cX5_toldCount 28 = .ok (.goto (-24), 3) := by decide +kernel
theorem dX5_toldCount_31 : decode cX5_toldCount 31 = .ok (.iload_n 1, 1) := by decide +kernel
theorem dX5_toldCount_32 : decode cX5_toldCount 32 = .ok (.ireturn, 1) := by decide +kernel
theorem dX5_becomes_0 : decode cX5_becomes 0 = .ok (.aload_n 1, 1) := by decide +kernel
theorem dX5_becomes_1 : decode cX5_becomes 1 = .ok (.ifnonnull 4, 3) := by decide +kernel
theorem dX5_becomes_4 : decode cX5_becomes 4 = .ok (.return_, 1) := by decide +kernel
theorem dX5_becomes_5 : decode cX5_becomes 5 = .ok (.aload_n 0, 1) := by decide +kernel
theorem dX5_becomes_6 : decode cX5_becomes 6 = .ok (.aload_n 1, 1) := by decide +kernel
theorem dX5_becomes_7 : decode cX5_becomes 7 = .ok (.getfield 33, 3) := by decide +kernel
theorem dX5_becomes_10 : decode cX5_becomes 10 = .ok (.putfield 33, 3) := by decide +kernel
theorem dX5_becomes_13 : decode cX5_becomes 13 = .ok (.aload_n 0, 1) := by decide +kernel
theorem dX5_becomes_14 : decode cX5_becomes 14 = .ok (.aload_n 1, 1) := by decide +kernel
theorem dX5_becomes_15 : decode cX5_becomes 15 = .ok (.getfield 45, 3) := by decide +kernel
theorem dX5_becomes_18 : decode cX5_becomes 18 = .ok (.putfield 45, 3) := by decide +kernel
theorem dX5_becomes_21 : decode cX5_becomes 21 = .ok (.iconst 0, 1) := by decide +kernel
theorem dX5_becomes_22 : decode cX5_becomes 22 = .ok (.istore_n 2, 1) := by decide +kernel
theorem dX5_becomes_23 : decode cX5_becomes 23 = .ok (.iload_n 2, 1) := by decide +kernel
theorem dX5_becomes_24 : decode cX5_becomes 24 = .ok (.bipush 10, 2) := by decide +kernel
theorem dX5_becomes_26 : decode cX5_becomes 26 = .ok (.if_icmp .ge 21, 3) := by decide +kernel
theorem dX5_becomes_29 : decode cX5_becomes 29 = .ok (.aload_n 0, 1) := by decide +kernel
theorem dX5_becomes_30 : decode cX5_becomes 30 = .ok (.getfield 11, 3) := by decide +kernel
theorem dX5_becomes_33 : decode cX5_becomes 33 = .ok (.iload_n 2, 1) := by decide +kernel
theorem dX5_becomes_34 : decode cX5_becomes 34 = .ok (.aload_n 1, 1) := by decide +kernel
theorem dX5_becomes_35 : decode cX5_becomes 35 = .ok (.getfield 11, 3) := by decide +kernel
theorem dX5_becomes_38 : decode cX5_becomes 38 = .ok (.iload_n 2, 1) := by decide +kernel
theorem dX5_becomes_39 : decode cX5_becomes 39 = .ok (.aaload, 1) := by decide +kernel
theorem dX5_becomes_40 : decode cX5_becomes 40 = .ok (.aastore, 1) := by decide +kernel
theorem dX5_becomes_41 : decode cX5_becomes 41 = .ok (.iinc 2 1, 3) := by decide +kernel
theorem dX5_becomes_44 : decode cX5_becomes 44 = .ok (.goto (-21), 3) := by decide +kernel
theorem dX5_becomes_47 : decode cX5_becomes 47 = .ok (.iconst 0, 1) := by decide +kernel
theorem dX5_becomes_48 : decode cX5_becomes 48 = .ok (.istore_n 2, 1) := by decide +kernel
theorem dX5_becomes_49 : decode cX5_becomes 49 = .ok (.iload_n 2, 1) := by decide +kernel
theorem dX5_becomes_50 : decode cX5_becomes 50 = .ok (.bipush 8, 2) := by decide +kernel
theorem dX5_becomes_52 : decode cX5_becomes 52 = .ok (.if_icmp .ge 45, 3) := by decide +kernel
theorem dX5_becomes_55 : decode cX5_becomes 55 = .ok (.aload_n 0, 1) := by decide +kernel
theorem dX5_becomes_56 : decode cX5_becomes 56 = .ok (.getfield 17, 3) := by decide +kernel
theorem dX5_becomes_59 : decode cX5_becomes 59 = .ok (.iload_n 2, 1) := by decide +kernel
theorem dX5_becomes_60 : decode cX5_becomes 60 = .ok (.aload_n 1, 1) := by decide +kernel
theorem dX5_becomes_61 : decode cX5_becomes 61 = .ok (.getfield 17, 3) := by decide +kernel
theorem dX5_becomes_64 : decode cX5_becomes 64 = .ok (.iload_n 2, 1) := by decide +kernel
theorem dX5_becomes_65 : decode cX5_becomes 65 = .ok (.iaload, 1) := by decide +kernel
theorem dX5_becomes_66 : decode cX5_becomes 66 = .ok (.iastore, 1) := by decide +kernel
theorem dX5_becomes_67 : decode cX5_becomes 67 = .ok (.aload_n 0, 1) := by decide +kernel
theorem dX5_becomes_68 : decode cX5_becomes 68 = .ok (.getfield 21, 3) := by decide +kernel
theorem dX5_becomes_71 : decode cX5_becomes 71 = .ok (.iload_n 2, 1) := by decide +kernel
theorem dX5_becomes_72 : decode cX5_becomes 72 = .ok (.aload_n 1, 1) := by decide +kernel
theorem dX5_becomes_73 : decode cX5_becomes 73 = .ok (.getfield 21, 3) := by decide +kernel
theorem dX5_becomes_76 : decode cX5_becomes 76 = .ok (.iload_n 2, 1) := by decide +kernel
theorem dX5_becomes_77 : decode cX5_becomes 77 = .ok (.iaload, 1) := by decide +kernel
theorem dX5_becomes_78 : decode cX5_becomes 78 = .ok (.iastore, 1) := by decide +kernel
theorem dX5_becomes_79 : decode cX5_becomes 79 = .ok (.aload_n 0, 1) := by decide +kernel
theorem dX5_becomes_80 : decode cX5_becomes 80 = .ok (.getfield 24, 3) := by decide +kernel
theorem dX5_becomes_83 : decode cX5_becomes 83 = .ok (.iload_n 2, 1) := by decide +kernel
theorem dX5_becomes_84 : decode cX5_becomes 84 = .ok (.aload_n 1, 1) := by decide +kernel
theorem dX5_becomes_85 : decode cX5_becomes 85 = .ok (.getfield 24, 3) := by decide +kernel
theorem dX5_becomes_88 : decode cX5_becomes 88 = .ok (.iload_n 2, 1) := by decide +kernel
theorem dX5_becomes_89 : decode cX5_becomes 89 = .ok (.iaload, 1) := by decide +kernel
theorem dX5_becomes_90 : decode cX5_becomes 90 = .ok (.iastore, 1) := by decide +kernel
theorem dX5_becomes_91 : decode cX5_becomes 91 = .ok (.iinc 2 1, 3) := by decide +kernel
theorem dX5_becomes_94 : decode cX5_becomes 94 = .ok (.goto (-45), 3) := by decide +kernel
theorem dX5_becomes_97 : decode cX5_becomes 97 = .ok (.iconst 0, 1) := by decide +kernel
theorem dX5_becomes_98 : decode cX5_becomes 98 = .ok (.istore_n 2, 1) := by decide +kernel
theorem dX5_becomes_99 : decode cX5_becomes 99 = .ok (.iload_n 2, 1) := by decide +kernel
theorem dX5_becomes_100 : decode cX5_becomes 100 = .ok (.bipush 100, 2) := by decide +kernel
theorem dX5_becomes_102 : decode cX5_becomes 102 = .ok (.if_icmp .ge 21, 3) := by decide +kernel
theorem dX5_becomes_105 : decode cX5_becomes 105 = .ok (.aload_n 0, 1) := by decide +kernel
theorem dX5_becomes_106 : decode cX5_becomes 106 = .ok (.getfield 27, 3) := by decide +kernel
theorem dX5_becomes_109 : decode cX5_becomes 109 = .ok (.iload_n 2, 1) := by decide +kernel
theorem dX5_becomes_110 : decode cX5_becomes 110 = .ok (.aload_n 1, 1) := by decide +kernel
theorem dX5_becomes_111 : decode cX5_becomes 111 = .ok (.getfield 27, 3) := by decide +kernel
theorem dX5_becomes_114 : decode cX5_becomes 114 = .ok (.iload_n 2, 1) := by decide +kernel
theorem dX5_becomes_115 : decode cX5_becomes 115 = .ok (.iaload, 1) := by decide +kernel
theorem dX5_becomes_116 : decode cX5_becomes 116 = .ok (.iastore, 1) := by decide +kernel
theorem dX5_becomes_117 : decode cX5_becomes 117 = .ok (.iinc 2 1, 3) := by decide +kernel
theorem dX5_becomes_120 : decode cX5_becomes 120 = .ok (.goto (-21), 3) := by decide +kernel
theorem dX5_becomes_123 : decode cX5_becomes 123 = .ok (.return_, 1) := by decide +kernel
theorem dX5_readFrom_0 : decode cX5_readFrom 0 = .ok (.iconst (-1), 1) := by decide +kernel
theorem dX5_readFrom_1 : decode cX5_readFrom 1 = .ok (.istore_n 2, 1) := by decide +kernel
theorem dX5_readFrom_2 : decode cX5_readFrom 2 = .ok (.iconst 0, 1) := by decide +kernel
theorem dX5_readFrom_3 : decode cX5_readFrom 3 = .ok (.istore_n 3, 1) := by decide +kernel
theorem dX5_readFrom_4 : decode cX5_readFrom 4 = .ok (.aload_n 0, 1) := by decide +kernel
theorem dX5_readFrom_5 : decode cX5_readFrom 5 = .ok (.iconst 0, 1) := by decide +kernel
theorem dX5_readFrom_6 : decode cX5_readFrom 6 = .ok (.putfield 62, 3) := by decide +kernel
theorem dX5_readFrom_9 : decode cX5_readFrom 9 = .ok (.aload_n 0, 1) := by decide +kernel
theorem dX5_readFrom_10 : decode cX5_readFrom 10 = .ok (.getfield 62, 3) := by decide +kernel
theorem dX5_readFrom_13 : decode cX5_readFrom 13 = .ok (.istore 4, 2) := by decide +kernel
theorem dX5_readFrom_15 : decode cX5_readFrom 15 = .ok (.aload_n 0, 1) := by decide +kernel
theorem dX5_readFrom_16 : decode cX5_readFrom 16 = .ok (.aload_n 1, 1) := by decide +kernel
theorem dX5_readFrom_17 : decode cX5_readFrom 17 = .ok (.invokevirtual 65, 3) := by decide +kernel
theorem dX5_readFrom_20 : decode cX5_readFrom 20 = .ok (.ifCond .ne 12, 3) := by decide +kernel
theorem dX5_readFrom_23 : decode cX5_readFrom 23 = .ok (.sipush (-1000), 3) := by decide +kernel
theorem dX5_readFrom_26 : decode cX5_readFrom 26 = .ok (.aload_n 0, 1) := by decide +kernel
theorem dX5_readFrom_27 : decode cX5_readFrom 27 = .ok (.getfield 62, 3) := by decide +kernel
theorem dX5_readFrom_30 : decode cX5_readFrom 30 = .ok (.isub, 1) := by decide +kernel
theorem dX5_readFrom_31 : decode cX5_readFrom 31 = .ok (.ireturn, 1) := by decide +kernel
theorem dX5_readFrom_32 : decode cX5_readFrom 32 = .ok (.iload_n 2, 1) := by decide +kernel
theorem dX5_readFrom_33 : decode cX5_readFrom 33 = .ok (.ifCond .ge 13, 3) := by decide +kernel
theorem dX5_readFrom_36 : decode cX5_readFrom 36 = .ok (.aload_n 0, 1) := by decide +kernel
theorem dX5_readFrom_37 : decode cX5_readFrom 37 = .ok (.invokevirtual 69, 3) := by decide +kernel
theorem dX5_readFrom_40 : decode cX5_readFrom 40 = .ok (.ifCond .ne 6, 3) := by decide +kernel
theorem dX5_readFrom_43 : decode cX5_readFrom 43 = .ok (.iload 4, 2) := by decide +kernel
theorem dX5_readFrom_45 : decode cX5_readFrom 45 = .ok (.istore_n 2, 1) := by decide +kernel
theorem dX5_readFrom_46 : decode cX5_readFrom 46 = .ok (.iinc 3 1, 3) := by decide +kernel
theorem dX5_readFrom_49 : decode cX5_readFrom 49 = .ok (.iload_n 3, 1) := by decide +kernel
theorem dX5_readFrom_50 : decode cX5_readFrom 50 = .ok (.bipush 100, 2) := by decide +kernel
theorem dX5_readFrom_52 : decode cX5_readFrom 52 = .ok (.if_icmp .ge 14, 3) := by decide +kernel
theorem dX5_readFrom_55 : decode cX5_readFrom 55 = .ok (.aload_n 0, 1) := by decide +kernel
theorem dX5_readFrom_56 : decode cX5_readFrom 56 = .ok (.getfield 62, 3) := by decide +kernel
theorem dX5_readFrom_59 : decode cX5_readFrom 59 = .ok (.aload_n 1, 1) := by decide +kernel
theorem dX5_readFrom_60 : decode cX5_readFrom 60 = .ok (.getfield 73, 3) := by decide +kernel
theorem dX5_readFrom_63 : decode cX5_readFrom 63 = .ok (.if_icmp .lt (-54), 3) := by decide +kernel
theorem dX5_readFrom_66 : decode cX5_readFrom 66 = .ok (.iload_n 2, 1) := by decide +kernel
theorem dX5_readFrom_67 : decode cX5_readFrom 67 = .ok (.ifCond .ge 7, 3) := by decide +kernel
theorem dX5_readFrom_70 : decode cX5_readFrom 70 = .ok (.iload_n 3, 1) := by decide +kernel
theorem dX5_readFrom_71 : decode cX5_readFrom 71 = .ok (.goto 8, 3) := by decide +kernel
theorem dX5_readFrom_74 : decode cX5_readFrom 74 = .ok (.sipush (-2000), 3) := by decide +kernel
theorem dX5_readFrom_77 : decode cX5_readFrom 77 = .ok (.iload_n 2, 1) := by decide +kernel
theorem dX5_readFrom_78 : decode cX5_readFrom 78 = .ok (.isub, 1) := by decide +kernel
theorem dX5_readFrom_79 : decode cX5_readFrom 79 = .ok (.ireturn, 1) := by decide +kernel
theorem dX5_readsStatement_0 : decode cX5_readsStatement 0 = .ok (.aload_n 0, 1) := by decide +kernel
theorem dX5_readsStatement_1 : decode cX5_readsStatement 1 = .ok (.aload_n 1, 1) := by decide +kernel
theorem dX5_readsStatement_2 : decode cX5_readsStatement 2 = .ok (.aload_n 0, 1) := by decide +kernel
theorem dX5_readsStatement_3 : decode cX5_readsStatement 3 = .ok (.getfield 62, 3) := by decide +kernel
theorem dX5_readsStatement_6 : decode cX5_readsStatement 6 = .ok (.invokevirtual 78, 3) := by decide +kernel
theorem dX5_readsStatement_9 : decode cX5_readsStatement 9 = .ok (.putfield 82, 3) := by decide +kernel
theorem dX5_readsStatement_12 : decode cX5_readsStatement 12 = .ok (.aload_n 0, 1) := by decide +kernel
theorem dX5_readsStatement_13 : decode cX5_readsStatement 13 = .ok (.getfield 82, 3) := by decide +kernel
theorem dX5_readsStatement_16 : decode cX5_readsStatement 16 = .ok (.lookupswitch 180 #[(107, 87), (116, 129), (121, 36)], 36) := by decide +kernel
theorem dX5_readsStatement_52 : decode cX5_readsStatement 52 = .ok (.aload_n 0, 1) := by decide +kernel
theorem dX5_readsStatement_53 : decode cX5_readsStatement 53 = .ok (.dup, 1) := by decide +kernel
theorem dX5_readsStatement_54 : decode cX5_readsStatement 54 = .ok (.getfield 62, 3) := by decide +kernel
theorem dX5_readsStatement_57 : decode cX5_readsStatement 57 = .ok (.iconst 1, 1) := by decide +kernel
theorem dX5_readsStatement_58 : decode cX5_readsStatement 58 = .ok (.iadd, 1) := by decide +kernel
theorem dX5_readsStatement_59 : decode cX5_readsStatement 59 = .ok (.putfield 62, 3) := by decide +kernel
theorem dX5_readsStatement_62 : decode cX5_readsStatement 62 = .ok (.aload_n 0, 1) := by decide +kernel
theorem dX5_readsStatement_63 : decode cX5_readsStatement 63 = .ok (.aload_n 1, 1) := by decide +kernel
theorem dX5_readsStatement_64 : decode cX5_readsStatement 64 = .ok (.iconst 0, 1) := by decide +kernel
theorem dX5_readsStatement_65 : decode cX5_readsStatement 65 = .ok (.invokevirtual 85, 3) := by decide +kernel
theorem dX5_readsStatement_68 : decode cX5_readsStatement 68 = .ok (.ifCond .eq 33, 3) := by decide +kernel
theorem dX5_readsStatement_71 : decode cX5_readsStatement 71 = .ok (.aload_n 0, 1) := by decide +kernel
theorem dX5_readsStatement_72 : decode cX5_readsStatement 72 = .ok (.aload_n 1, 1) := by decide +kernel
theorem dX5_readsStatement_73 : decode cX5_readsStatement 73 = .ok (.iconst 1, 1) := by decide +kernel
theorem dX5_readsStatement_74 : decode cX5_readsStatement 74 = .ok (.invokevirtual 85, 3) := by decide +kernel
theorem dX5_readsStatement_77 : decode cX5_readsStatement 77 = .ok (.ifCond .eq 24, 3) := by decide +kernel
theorem dX5_readsStatement_80 : decode cX5_readsStatement 80 = .ok (.aload_n 0, 1) := by decide +kernel
theorem dX5_readsStatement_81 : decode cX5_readsStatement 81 = .ok (.aload_n 1, 1) := by decide +kernel
theorem dX5_readsStatement_82 : decode cX5_readsStatement 82 = .ok (.iconst 2, 1) := by decide +kernel
theorem dX5_readsStatement_83 : decode cX5_readsStatement 83 = .ok (.invokevirtual 89, 3) := by decide +kernel
theorem dX5_readsStatement_86 : decode cX5_readsStatement 86 = .ok (.ifCond .eq 15, 3) := by decide +kernel
theorem dX5_readsStatement_89 : decode cX5_readsStatement 89 = .ok (.aload_n 0, 1) := by decide +kernel
theorem dX5_readsStatement_90 : decode cX5_readsStatement 90 = .ok (.aload_n 1, 1) := by decide +kernel
theorem dX5_readsStatement_91 : decode cX5_readsStatement 91 = .ok (.invokevirtual 92, 3) := by decide +kernel
theorem dX5_readsStatement_94 : decode cX5_readsStatement 94 = .ok (.ifCond .eq 7, 3) := by decide +kernel
theorem dX5_readsStatement_97 : decode cX5_readsStatement 97 = .ok (.iconst 1, 1) := by decide +kernel
theorem dX5_readsStatement_98 : decode cX5_readsStatement 98 = .ok (.goto 4, 3) := by decide +kernel
theorem dX5_readsStatement_101 : decode cX5_readsStatement 101 = .ok (.iconst 0, 1) := by decide +kernel
theorem dX5_readsStatement_102 : decode cX5_readsStatement 102 = .ok (.ireturn, 1) := by decide +kernel
theorem dX5_readsStatement_103 : decode cX5_readsStatement 103 = .ok (.aload_n 0, 1) := by decide +kernel
theorem dX5_readsStatement_104 : decode cX5_readsStatement 104 = .ok (.dup, 1) := by decide +kernel
theorem dX5_readsStatement_105 : decode cX5_readsStatement 105 = .ok (.getfield 62, 3) := by decide +kernel
theorem dX5_readsStatement_108 : decode cX5_readsStatement 108 = .ok (.iconst 1, 1) := by decide +kernel
theorem dX5_readsStatement_109 : decode cX5_readsStatement 109 = .ok (.iadd, 1) := by decide +kernel
theorem dX5_readsStatement_110 : decode cX5_readsStatement 110 = .ok (.putfield 62, 3) := by decide +kernel
theorem dX5_readsStatement_113 : decode cX5_readsStatement 113 = .ok (.aload_n 0, 1) := by decide +kernel
theorem dX5_readsStatement_114 : decode cX5_readsStatement 114 = .ok (.aload_n 1, 1) := by decide +kernel
theorem dX5_readsStatement_115 : decode cX5_readsStatement 115 = .ok (.iconst 0, 1) := by decide +kernel
theorem dX5_readsStatement_116 : decode cX5_readsStatement 116 = .ok (.invokevirtual 85, 3) := by decide +kernel
theorem dX5_readsStatement_119 : decode cX5_readsStatement 119 = .ok (.ifCond .eq 24, 3) := by decide +kernel
theorem dX5_readsStatement_122 : decode cX5_readsStatement 122 = .ok (.aload_n 0, 1) := by decide +kernel
theorem dX5_readsStatement_123 : decode cX5_readsStatement 123 = .ok (.aload_n 1, 1) := by decide +kernel
theorem dX5_readsStatement_124 : decode cX5_readsStatement 124 = .ok (.iconst 1, 1) := by decide +kernel
theorem dX5_readsStatement_125 : decode cX5_readsStatement 125 = .ok (.invokevirtual 89, 3) := by decide +kernel
theorem dX5_readsStatement_128 : decode cX5_readsStatement 128 = .ok (.ifCond .eq 15, 3) := by decide +kernel
theorem dX5_readsStatement_131 : decode cX5_readsStatement 131 = .ok (.aload_n 0, 1) := by decide +kernel
theorem dX5_readsStatement_132 : decode cX5_readsStatement 132 = .ok (.aload_n 1, 1) := by decide +kernel
theorem dX5_readsStatement_133 : decode cX5_readsStatement 133 = .ok (.invokevirtual 92, 3) := by decide +kernel
theorem dX5_readsStatement_136 : decode cX5_readsStatement 136 = .ok (.ifCond .eq 7, 3) := by decide +kernel
theorem dX5_readsStatement_139 : decode cX5_readsStatement 139 = .ok (.iconst 1, 1) := by decide +kernel
theorem dX5_readsStatement_140 : decode cX5_readsStatement 140 = .ok (.goto 4, 3) := by decide +kernel
theorem dX5_readsStatement_143 : decode cX5_readsStatement 143 = .ok (.iconst 0, 1) := by decide +kernel
theorem dX5_readsStatement_144 : decode cX5_readsStatement 144 = .ok (.ireturn, 1) := by decide +kernel
theorem dX5_readsStatement_145 : decode cX5_readsStatement 145 = .ok (.aload_n 0, 1) := by decide +kernel
theorem dX5_readsStatement_146 : decode cX5_readsStatement 146 = .ok (.dup, 1) := by decide +kernel
theorem dX5_readsStatement_147 : decode cX5_readsStatement 147 = .ok (.getfield 62, 3) := by decide +kernel
theorem dX5_readsStatement_150 : decode cX5_readsStatement 150 = .ok (.iconst 1, 1) := by decide +kernel
theorem dX5_readsStatement_151 : decode cX5_readsStatement 151 = .ok (.iadd, 1) := by decide +kernel
theorem dX5_readsStatement_152 : decode cX5_readsStatement 152 = .ok (.putfield 62, 3) := by decide +kernel
theorem dX5_readsStatement_155 : decode cX5_readsStatement 155 = .ok (.aload_n 0, 1) := by decide +kernel
theorem dX5_readsStatement_156 : decode cX5_readsStatement 156 = .ok (.aload_n 1, 1) := by decide +kernel
theorem dX5_readsStatement_157 : decode cX5_readsStatement 157 = .ok (.iconst 0, 1) := by decide +kernel
theorem dX5_readsStatement_158 : decode cX5_readsStatement 158 = .ok (.invokevirtual 85, 3) := by decide +kernel
theorem dX5_readsStatement_161 : decode cX5_readsStatement 161 = .ok (.ifCond .eq 33, 3) := by decide +kernel
theorem dX5_readsStatement_164 : decode cX5_readsStatement 164 = .ok (.aload_n 0, 1) := by decide +kernel
theorem dX5_readsStatement_165 : decode cX5_readsStatement 165 = .ok (.aload_n 1, 1) := by decide +kernel
theorem dX5_readsStatement_166 : decode cX5_readsStatement 166 = .ok (.iconst 1, 1) := by decide +kernel
theorem dX5_readsStatement_167 : decode cX5_readsStatement 167 = .ok (.invokevirtual 85, 3) := by decide +kernel
theorem dX5_readsStatement_170 : decode cX5_readsStatement 170 = .ok (.ifCond .eq 24, 3) := by decide +kernel
theorem dX5_readsStatement_173 : decode cX5_readsStatement 173 = .ok (.aload_n 0, 1) := by decide +kernel
theorem dX5_readsStatement_174 : decode cX5_readsStatement 174 = .ok (.aload_n 1, 1) := by decide +kernel
theorem dX5_readsStatement_175 : decode cX5_readsStatement 175 = .ok (.iconst 2, 1) := by decide +kernel
theorem dX5_readsStatement_176 : decode cX5_readsStatement 176 = .ok (.invokevirtual 95, 3) := by decide +kernel
theorem dX5_readsStatement_179 : decode cX5_readsStatement 179 = .ok (.ifCond .eq 15, 3) := by decide +kernel
theorem dX5_readsStatement_182 : decode cX5_readsStatement 182 = .ok (.aload_n 0, 1) := by decide +kernel
theorem dX5_readsStatement_183 : decode cX5_readsStatement 183 = .ok (.aload_n 1, 1) := by decide +kernel
theorem dX5_readsStatement_184 : decode cX5_readsStatement 184 = .ok (.invokevirtual 92, 3) := by decide +kernel
theorem dX5_readsStatement_187 : decode cX5_readsStatement 187 = .ok (.ifCond .eq 7, 3) := by decide +kernel
theorem dX5_readsStatement_190 : decode cX5_readsStatement 190 = .ok (.iconst 1, 1) := by decide +kernel
theorem dX5_readsStatement_191 : decode cX5_readsStatement 191 = .ok (.goto 4, 3) := by decide +kernel
theorem dX5_readsStatement_194 : decode cX5_readsStatement 194 = .ok (.iconst 0, 1) := by decide +kernel
theorem dX5_readsStatement_195 : decode cX5_readsStatement 195 = .ok (.ireturn, 1) := by decide +kernel
theorem dX5_readsStatement_196 : decode cX5_readsStatement 196 = .ok (.iconst 0, 1) := by decide +kernel
theorem dX5_readsStatement_197 : decode cX5_readsStatement 197 = .ok (.ireturn, 1) := by decide +kernel
theorem dX5_readsDigit_0 : decode cX5_readsDigit 0 = .ok (.aload_n 1, 1) := by decide +kernel
theorem dX5_readsDigit_1 : decode cX5_readsDigit 1 = .ok (.aload_n 0, 1) := by decide +kernel
theorem dX5_readsDigit_2 : decode cX5_readsDigit 2 = .ok (.getfield 62, 3) := by decide +kernel
theorem dX5_readsDigit_5 : decode cX5_readsDigit 5 = .ok (.invokevirtual 78, 3) := by decide +kernel
theorem dX5_readsDigit_8 : decode cX5_readsDigit 8 = .ok (.istore_n 3, 1) := by decide +kernel
theorem dX5_readsDigit_9 : decode cX5_readsDigit 9 = .ok (.iload_n 3, 1) := by decide +kernel
theorem dX5_readsDigit_10 : decode cX5_readsDigit 10 = .ok (.bipush 48, 2) := by decide +kernel
theorem dX5_readsDigit_12 : decode cX5_readsDigit 12 = .ok (.if_icmp .lt 9, 3) := by decide +kernel
theorem dX5_readsDigit_15 : decode cX5_readsDigit 15 = .ok (.iload_n 3, 1) := by decide +kernel
theorem dX5_readsDigit_16 : decode cX5_readsDigit 16 = .ok (.bipush 57, 2) := by decide +kernel
theorem dX5_readsDigit_18 : decode cX5_readsDigit 18 = .ok (.if_icmp .le 5, 3) := by decide +kernel
theorem dX5_readsDigit_21 : decode cX5_readsDigit 21 = .ok (.iconst 0, 1) := by decide +kernel
theorem dX5_readsDigit_22 : decode cX5_readsDigit 22 = .ok (.ireturn, 1) := by decide +kernel
theorem dX5_readsDigit_23 : decode cX5_readsDigit 23 = .ok (.aload_n 0, 1) := by decide +kernel
theorem dX5_readsDigit_24 : decode cX5_readsDigit 24 = .ok (.getfield 30, 3) := by decide +kernel
theorem dX5_readsDigit_27 : decode cX5_readsDigit 27 = .ok (.iload_n 2, 1) := by decide +kernel
theorem dX5_readsDigit_28 : decode cX5_readsDigit 28 = .ok (.iload_n 3, 1) := by decide +kernel
theorem dX5_readsDigit_29 : decode cX5_readsDigit 29 = .ok (.bipush 48, 2) := by decide +kernel
theorem dX5_readsDigit_31 : decode cX5_readsDigit 31 = .ok (.isub, 1) := by decide +kernel
theorem dX5_readsDigit_32 : decode cX5_readsDigit 32 = .ok (.invokestatic 98, 3) := by decide +kernel
theorem dX5_readsDigit_35 : decode cX5_readsDigit 35 = .ok (.aload_n 0, 1) := by decide +kernel
theorem dX5_readsDigit_36 : decode cX5_readsDigit 36 = .ok (.dup, 1) := by decide +kernel
theorem dX5_readsDigit_37 : decode cX5_readsDigit 37 = .ok (.getfield 62, 3) := by decide +kernel
theorem dX5_readsDigit_40 : decode cX5_readsDigit 40 = .ok (.iconst 1, 1) := by decide +kernel
theorem dX5_readsDigit_41 : decode cX5_readsDigit 41 = .ok (.iadd, 1) := by decide +kernel
theorem dX5_readsDigit_42 : decode cX5_readsDigit 42 = .ok (.putfield 62, 3) := by decide +kernel
theorem dX5_readsDigit_45 : decode cX5_readsDigit 45 = .ok (.iconst 1, 1) := by decide +kernel
theorem dX5_readsDigit_46 : decode cX5_readsDigit 46 = .ok (.ireturn, 1) := by decide +kernel
theorem dX5_readsPerhapsDigit_0 : decode cX5_readsPerhapsDigit 0 = .ok (.aload_n 0, 1) := by decide +kernel
theorem dX5_readsPerhapsDigit_1 : decode cX5_readsPerhapsDigit 1 = .ok (.aload_n 1, 1) := by decide +kernel
theorem dX5_readsPerhapsDigit_2 : decode cX5_readsPerhapsDigit 2 = .ok (.iload_n 2, 1) := by decide +kernel
theorem dX5_readsPerhapsDigit_3 : decode cX5_readsPerhapsDigit 3 = .ok (.invokevirtual 85, 3) := by decide +kernel
theorem dX5_readsPerhapsDigit_6 : decode cX5_readsPerhapsDigit 6 = .ok (.ifCond .ne 12, 3) := by decide +kernel
theorem dX5_readsPerhapsDigit_9 : decode cX5_readsPerhapsDigit 9 = .ok (.aload_n 0, 1) := by decide +kernel
theorem dX5_readsPerhapsDigit_10 : decode cX5_readsPerhapsDigit 10 = .ok (.getfield 30, 3) := by decide +kernel
theorem dX5_readsPerhapsDigit_13 : decode cX5_readsPerhapsDigit 13 = .ok (.iload_n 2, 1) := by decide +kernel
theorem dX5_readsPerhapsDigit_14 : decode cX5_readsPerhapsDigit 14 = .ok (.iconst 0, 1) := by decide +kernel
theorem dX5_readsPerhapsDigit_15 : decode cX5_readsPerhapsDigit 15 = .ok (.invokestatic 98, 3) := by decide +kernel
theorem dX5_readsPerhapsDigit_18 : decode cX5_readsPerhapsDigit 18 = .ok (.iconst 1, 1) := by decide +kernel
theorem dX5_readsPerhapsDigit_19 : decode cX5_readsPerhapsDigit 19 = .ok (.ireturn, 1) := by decide +kernel
theorem dX5_readsNumber_0 : decode cX5_readsNumber 0 = .ok (.aload_n 0, 1) := by decide +kernel
theorem dX5_readsNumber_1 : decode cX5_readsNumber 1 = .ok (.aload_n 1, 1) := by decide +kernel
theorem dX5_readsNumber_2 : decode cX5_readsNumber 2 = .ok (.iload_n 2, 1) := by decide +kernel
theorem dX5_readsNumber_3 : decode cX5_readsNumber 3 = .ok (.invokevirtual 85, 3) := by decide +kernel
theorem dX5_readsNumber_6 : decode cX5_readsNumber 6 = .ok (.ifCond .ne 5, 3) := by decide +kernel
theorem dX5_readsNumber_9 : decode cX5_readsNumber 9 = .ok (.iconst 0, 1) := by decide +kernel
theorem dX5_readsNumber_10 : decode cX5_readsNumber 10 = .ok (.ireturn, 1) := by decide +kernel
theorem dX5_readsNumber_11 : decode cX5_readsNumber 11 = .ok (.aload_n 0, 1) := by decide +kernel
theorem dX5_readsNumber_12 : decode cX5_readsNumber 12 = .ok (.getfield 30, 3) := by decide +kernel
theorem dX5_readsNumber_15 : decode cX5_readsNumber 15 = .ok (.iload_n 2, 1) := by decide +kernel
theorem dX5_readsNumber_16 : decode cX5_readsNumber 16 = .ok (.invokestatic 58, 3) := by decide +kernel
theorem dX5_readsNumber_19 : decode cX5_readsNumber 19 = .ok (.istore_n 3, 1) := by decide +kernel
theorem dX5_readsNumber_20 : decode cX5_readsNumber 20 = .ok (.iload_n 3, 1) := by decide +kernel
theorem dX5_readsNumber_21 : decode cX5_readsNumber 21 = .ok (.ifCond .eq 33, 3) := by decide +kernel
theorem dX5_readsNumber_24 : decode cX5_readsNumber 24 = .ok (.aload_n 0, 1) := by decide +kernel
theorem dX5_readsNumber_25 : decode cX5_readsNumber 25 = .ok (.aload_n 1, 1) := by decide +kernel
theorem dX5_readsNumber_26 : decode cX5_readsNumber 26 = .ok (.iload_n 2, 1) := by decide +kernel
theorem dX5_readsNumber_27 : decode cX5_readsNumber 27 = .ok (.invokevirtual 85, 3) := by decide +kernel
theorem dX5_readsNumber_30 : decode cX5_readsNumber 30 = .ok (.ifCond .eq 24, 3) := by decide +kernel
theorem dX5_readsNumber_33 : decode cX5_readsNumber 33 = .ok (.aload_n 0, 1) := by decide +kernel
theorem dX5_readsNumber_34 : decode cX5_readsNumber 34 = .ok (.getfield 30, 3) := by decide +kernel
theorem dX5_readsNumber_37 : decode cX5_readsNumber 37 = .ok (.iload_n 2, 1) := by decide +kernel
theorem dX5_readsNumber_38 : decode cX5_readsNumber 38 = .ok (.bipush 10, 2) := by decide +kernel
theorem dX5_readsNumber_40 : decode cX5_readsNumber 40 = .ok (.iload_n 3, 1) := by decide +kernel
theorem dX5_readsNumber_41 : decode cX5_readsNumber 41 = .ok (.imul, 1) := by decide +kernel
theorem dX5_readsNumber_42 : decode cX5_readsNumber 42 = .ok (.aload_n 0, 1) := by decide +kernel
theorem dX5_readsNumber_43 : decode cX5_readsNumber 43 = .ok (.getfield 30, 3) := by decide +kernel
theorem dX5_readsNumber_46 : decode cX5_readsNumber 46 = .ok (.iload_n 2, 1) := by decide +kernel
theorem dX5_readsNumber_47 : decode cX5_readsNumber 47 = .ok (.invokestatic 58, 3) := by decide +kernel
theorem dX5_readsNumber_50 : decode cX5_readsNumber 50 = .ok (.iadd, 1) := by decide +kernel
theorem dX5_readsNumber_51 : decode cX5_readsNumber 51 = .ok (.invokestatic 98, 3) := by decide +kernel
theorem dX5_readsNumber_54 : decode cX5_readsNumber 54 = .ok (.iconst 1, 1) := by decide +kernel
theorem dX5_readsNumber_55 : decode cX5_readsNumber 55 = .ok (.ireturn, 1) := by decide +kernel
theorem dX5_readsEnd_0 : decode cX5_readsEnd 0 = .ok (.aload_n 1, 1) := by decide +kernel
theorem dX5_readsEnd_1 : decode cX5_readsEnd 1 = .ok (.aload_n 0, 1) := by decide +kernel
theorem dX5_readsEnd_2 : decode cX5_readsEnd 2 = .ok (.getfield 62, 3) := by decide +kernel
theorem dX5_readsEnd_5 : decode cX5_readsEnd 5 = .ok (.invokevirtual 78, 3) := by decide +kernel
theorem dX5_readsEnd_8 : decode cX5_readsEnd 8 = .ok (.bipush 59, 2) := by decide +kernel
theorem dX5_readsEnd_10 : decode cX5_readsEnd 10 = .ok (.if_icmp .eq 5, 3) := by decide +kernel
theorem dX5_readsEnd_13 : decode cX5_readsEnd 13 = .ok (.iconst 0, 1) := by decide +kernel
theorem dX5_readsEnd_14 : decode cX5_readsEnd 14 = .ok (.ireturn, 1) := by decide +kernel
theorem dX5_readsEnd_15 : decode cX5_readsEnd 15 = .ok (.aload_n 0, 1) := by decide +kernel
theorem dX5_readsEnd_16 : decode cX5_readsEnd 16 = .ok (.dup, 1) := by decide +kernel
theorem dX5_readsEnd_17 : decode cX5_readsEnd 17 = .ok (.getfield 62, 3) := by decide +kernel
theorem dX5_readsEnd_20 : decode cX5_readsEnd 20 = .ok (.iconst 1, 1) := by decide +kernel
theorem dX5_readsEnd_21 : decode cX5_readsEnd 21 = .ok (.iadd, 1) := by decide +kernel
theorem dX5_readsEnd_22 : decode cX5_readsEnd 22 = .ok (.putfield 62, 3) := by decide +kernel
theorem dX5_readsEnd_25 : decode cX5_readsEnd 25 = .ok (.iconst 1, 1) := by decide +kernel
theorem dX5_readsEnd_26 : decode cX5_readsEnd 26 = .ok (.ireturn, 1) := by decide +kernel
theorem dX5_takesStatement_0 : decode cX5_takesStatement 0 = .ok (.aload_n 0, 1) := by decide +kernel
theorem dX5_takesStatement_1 : decode cX5_takesStatement 1 = .ok (.getfield 30, 3) := by decide +kernel
theorem dX5_takesStatement_4 : decode cX5_takesStatement 4 = .ok (.iconst 0, 1) := by decide +kernel
theorem dX5_takesStatement_5 : decode cX5_takesStatement 5 = .ok (.invokestatic 58, 3) := by decide +kernel
theorem dX5_takesStatement_8 : decode cX5_takesStatement 8 = .ok (.istore_n 1, 1) := by decide +kernel
theorem dX5_takesStatement_9 : decode cX5_takesStatement 9 = .ok (.aload_n 0, 1) := by decide +kernel
theorem dX5_takesStatement_10 : decode cX5_takesStatement 10 = .ok (.getfield 30, 3) := by decide +kernel
theorem dX5_takesStatement_13 : decode cX5_takesStatement 13 = .ok (.iconst 1, 1) := by decide +kernel
theorem dX5_takesStatement_14 : decode cX5_takesStatement 14 = .ok (.invokestatic 58, 3) := by decide +kernel
theorem dX5_takesStatement_17 : decode cX5_takesStatement 17 = .ok (.istore_n 2, 1) := by decide +kernel
theorem dX5_takesStatement_18 : decode cX5_takesStatement 18 = .ok (.aload_n 0, 1) := by decide +kernel
theorem dX5_takesStatement_19 : decode cX5_takesStatement 19 = .ok (.getfield 30, 3) := by decide +kernel
theorem dX5_takesStatement_22 : decode cX5_takesStatement 22 = .ok (.iconst 2, 1) := by decide +kernel
theorem dX5_takesStatement_23 : decode cX5_takesStatement 23 = .ok (.invokestatic 58, 3) := by decide +kernel
theorem dX5_takesStatement_26 : decode cX5_takesStatement 26 = .ok (.istore_n 3, 1) := by decide +kernel
theorem dX5_takesStatement_27 : decode cX5_takesStatement 27 = .ok (.aload_n 0, 1) := by decide +kernel
theorem dX5_takesStatement_28 : decode cX5_takesStatement 28 = .ok (.getfield 82, 3) := by decide +kernel
theorem dX5_takesStatement_31 : decode cX5_takesStatement 31 = .ok (.lookupswitch 47 #[(107, 40), (121, 25)], 25) := by decide +kernel
theorem dX5_takesStatement_56 : decode cX5_takesStatement 56 = .ok (.aload_n 0, 1) := by decide +kernel
theorem dX5_takesStatement_57 : decode cX5_takesStatement 57 = .ok (.iload_n 1, 1) := by decide +kernel
theorem dX5_takesStatement_58 : decode cX5_takesStatement 58 = .ok (.aload_n 0, 1) := by decide +kernel
theorem dX5_takesStatement_59 : decode cX5_takesStatement 59 = .ok (.getfield 33, 3) := by decide +kernel
theorem dX5_takesStatement_62 : decode cX5_takesStatement 62 = .ok (.iload_n 2, 1) := by decide +kernel
theorem dX5_takesStatement_63 : decode cX5_takesStatement 63 = .ok (.iload_n 3, 1) := by decide +kernel
theorem dX5_takesStatement_64 : decode cX5_takesStatement 64 = .ok (.invokestatic 102, 3) := by decide +kernel
theorem dX5_takesStatement_67 : decode cX5_takesStatement 67 = .ok (.invokevirtual 106, 3) := by decide +kernel
theorem dX5_takesStatement_70 : decode cX5_takesStatement 70 = .ok (.ireturn, 1) := by decide +kernel
theorem dX5_takesStatement_71 : decode cX5_takesStatement 71 = .ok (.aload_n 0, 1) := by decide +kernel
theorem dX5_takesStatement_72 : decode cX5_takesStatement 72 = .ok (.iload_n 1, 1) := by decide +kernel
theorem dX5_takesStatement_73 : decode cX5_takesStatement 73 = .ok (.iload_n 2, 1) := by decide +kernel
theorem dX5_takesStatement_74 : decode cX5_takesStatement 74 = .ok (.invokevirtual 110, 3) := by decide +kernel
theorem dX5_takesStatement_77 : decode cX5_takesStatement 77 = .ok (.ireturn, 1) := by decide +kernel
theorem dX5_takesStatement_78 : decode cX5_takesStatement 78 = .ok (.aload_n 0, 1) := by decide +kernel
theorem dX5_takesStatement_79 : decode cX5_takesStatement 79 = .ok (.iload_n 3, 1) := by decide +kernel
theorem dX5_takesStatement_80 : decode cX5_takesStatement 80 = .ok (.iload_n 1, 1) := by decide +kernel
theorem dX5_takesStatement_81 : decode cX5_takesStatement 81 = .ok (.iload_n 2, 1) := by decide +kernel
theorem dX5_takesStatement_82 : decode cX5_takesStatement 82 = .ok (.invokevirtual 114, 3) := by decide +kernel
theorem dX5_takesStatement_85 : decode cX5_takesStatement 85 = .ok (.ireturn, 1) := by decide +kernel
theorem dX5_takesWay_0 : decode cX5_takesWay 0 = .ok (.aload_n 1, 1) := by decide +kernel
theorem dX5_takesWay_1 : decode cX5_takesWay 1 = .ok (.ifnull 27, 3) := by decide +kernel
theorem dX5_takesWay_4 : decode cX5_takesWay 4 = .ok (.aload_n 1, 1) := by decide +kernel
theorem dX5_takesWay_5 : decode cX5_takesWay 5 = .ok (.getfield 51, 3) := by decide +kernel
theorem dX5_takesWay_8 : decode cX5_takesWay 8 = .ok (.iconst 1, 1) := by decide +kernel
theorem dX5_takesWay_9 : decode cX5_takesWay 9 = .ok (.if_icmp .lt 19, 3) := by decide +kernel
theorem dX5_takesWay_12 : decode cX5_takesWay 12 = .ok (.aload_n 0, 1) := by decide +kernel
theorem dX5_takesWay_13 : decode cX5_takesWay 13 = .ok (.getfield 33, 3) := by decide +kernel
theorem dX5_takesWay_16 : decode cX5_takesWay 16 = .ok (.ifCond .lt 12, 3) := by decide +kernel
theorem dX5_takesWay_19 : decode cX5_takesWay 19 = .ok (.aload_n 0, 1) := by decide +kernel
theorem dX5_takesWay_20 : decode cX5_takesWay 20 = .ok (.getfield 33, 3) := by decide +kernel
theorem dX5_takesWay_23 : decode cX5_takesWay 23 = .ok (.bipush 10, 2) := by decide +kernel
theorem dX5_takesWay_25 : decode cX5_takesWay 25 = .ok (.if_icmp .lt 5, 3) := by decide +kernel
theorem dX5_takesWay_28 : decode cX5_takesWay 28 = .ok (.iconst 0, 1) := by decide +kernel
theorem dX5_takesWay_29 : decode cX5_takesWay 29 = .ok (.ireturn, 1) := by decide +kernel
theorem dX5_takesWay_30 : decode cX5_takesWay 30 = .ok (.aload_n 0, 1) := by decide +kernel
theorem dX5_takesWay_31 : decode cX5_takesWay 31 = .ok (.getfield 11, 3) := by decide +kernel
theorem dX5_takesWay_34 : decode cX5_takesWay 34 = .ok (.aload_n 0, 1) := by decide +kernel
theorem dX5_takesWay_35 : decode cX5_takesWay 35 = .ok (.getfield 33, 3) := by decide +kernel
theorem dX5_takesWay_38 : decode cX5_takesWay 38 = .ok (.aload_n 1, 1) := by decide +kernel
theorem dX5_takesWay_39 : decode cX5_takesWay 39 = .ok (.aastore, 1) := by decide +kernel
theorem dX5_takesWay_40 : decode cX5_takesWay 40 = .ok (.aload_n 0, 1) := by decide +kernel
theorem dX5_takesWay_41 : decode cX5_takesWay 41 = .ok (.dup, 1) := by decide +kernel
theorem dX5_takesWay_42 : decode cX5_takesWay 42 = .ok (.getfield 33, 3) := by decide +kernel
theorem dX5_takesWay_45 : decode cX5_takesWay 45 = .ok (.iconst 1, 1) := by decide +kernel
theorem dX5_takesWay_46 : decode cX5_takesWay 46 = .ok (.iadd, 1) := by decide +kernel
theorem dX5_takesWay_47 : decode cX5_takesWay 47 = .ok (.putfield 33, 3) := by decide +kernel
theorem dX5_takesWay_50 : decode cX5_takesWay 50 = .ok (.iconst 1, 1) := by decide +kernel
theorem dX5_takesWay_51 : decode cX5_takesWay 51 = .ok (.ireturn, 1) := by decide +kernel
theorem dX5_takesChild_0 : decode cX5_takesChild 0 = .ok (.aload_n 0, 1) := by decide +kernel
theorem dX5_takesChild_1 : decode cX5_takesChild 1 = .ok (.iload_n 1, 1) := by decide +kernel
theorem dX5_takesChild_2 : decode cX5_takesChild 2 = .ok (.invokevirtual 54, 3) := by decide +kernel
theorem dX5_takesChild_5 : decode cX5_takesChild 5 = .ok (.ifCond .eq 18, 3) := by decide +kernel
theorem dX5_takesChild_8 : decode cX5_takesChild 8 = .ok (.iload_n 2, 1) := by decide +kernel
theorem dX5_takesChild_9 : decode cX5_takesChild 9 = .ok (.bipush 50, 2) := by decide +kernel
theorem dX5_takesChild_11 : decode cX5_takesChild 11 = .ok (.if_icmp .gt 12, 3) := by decide +kernel
theorem dX5_takesChild_14 : decode cX5_takesChild 14 = .ok (.aload_n 0, 1) := by decide +kernel
theorem dX5_takesChild_15 : decode cX5_takesChild 15 = .ok (.getfield 45, 3) := by decide +kernel
theorem dX5_takesChild_18 : decode cX5_takesChild 18 = .ok (.bipush 8, 2) := by decide +kernel
theorem dX5_takesChild_20 : decode cX5_takesChild 20 = .ok (.if_icmp .lt 5, 3) := by decide +kernel
theorem dX5_takesChild_23 : decode cX5_takesChild 23 = .ok (.iconst 0, 1) := by decide +kernel
theorem dX5_takesChild_24 : decode cX5_takesChild 24 = .ok (.ireturn, 1) := by decide +kernel
theorem dX5_takesChild_25 : decode cX5_takesChild 25 = .ok (.aload_n 0, 1) := by decide +kernel
theorem dX5_takesChild_26 : decode cX5_takesChild 26 = .ok (.getfield 17, 3) := by decide +kernel
theorem dX5_takesChild_29 : decode cX5_takesChild 29 = .ok (.aload_n 0, 1) := by decide +kernel
theorem dX5_takesChild_30 : decode cX5_takesChild 30 = .ok (.getfield 45, 3) := by decide +kernel
theorem dX5_takesChild_33 : decode cX5_takesChild 33 = .ok (.iload_n 1, 1) := by decide +kernel
theorem dX5_takesChild_34 : decode cX5_takesChild 34 = .ok (.invokestatic 98, 3) := by decide +kernel
theorem dX5_takesChild_37 : decode cX5_takesChild 37 = .ok (.aload_n 0, 1) := by decide +kernel
theorem dX5_takesChild_38 : decode cX5_takesChild 38 = .ok (.getfield 21, 3) := by decide +kernel
theorem dX5_takesChild_41 : decode cX5_takesChild 41 = .ok (.aload_n 0, 1) := by decide +kernel
theorem dX5_takesChild_42 : decode cX5_takesChild 42 = .ok (.getfield 45, 3) := by decide +kernel
theorem dX5_takesChild_45 : decode cX5_takesChild 45 = .ok (.iload_n 1, 1) := by decide +kernel
theorem dX5_takesChild_46 : decode cX5_takesChild 46 = .ok (.invokestatic 98, 3) := by decide +kernel
theorem dX5_takesChild_49 : decode cX5_takesChild 49 = .ok (.aload_n 0, 1) := by decide +kernel
theorem dX5_takesChild_50 : decode cX5_takesChild 50 = .ok (.getfield 24, 3) := by decide +kernel
theorem dX5_takesChild_53 : decode cX5_takesChild 53 = .ok (.aload_n 0, 1) := by decide +kernel
theorem dX5_takesChild_54 : decode cX5_takesChild 54 = .ok (.getfield 45, 3) := by decide +kernel
theorem dX5_takesChild_57 : decode cX5_takesChild 57 = .ok (.iload_n 2, 1) := by decide +kernel
theorem dX5_takesChild_58 : decode cX5_takesChild 58 = .ok (.invokestatic 98, 3) := by decide +kernel
theorem dX5_takesChild_61 : decode cX5_takesChild 61 = .ok (.aload_n 0, 1) := by decide +kernel
theorem dX5_takesChild_62 : decode cX5_takesChild 62 = .ok (.dup, 1) := by decide +kernel
theorem dX5_takesChild_63 : decode cX5_takesChild 63 = .ok (.getfield 45, 3) := by decide +kernel
theorem dX5_takesChild_66 : decode cX5_takesChild 66 = .ok (.iconst 1, 1) := by decide +kernel
theorem dX5_takesChild_67 : decode cX5_takesChild 67 = .ok (.iadd, 1) := by decide +kernel
theorem dX5_takesChild_68 : decode cX5_takesChild 68 = .ok (.putfield 45, 3) := by decide +kernel
theorem dX5_takesChild_71 : decode cX5_takesChild 71 = .ok (.iconst 1, 1) := by decide +kernel
theorem dX5_takesChild_72 : decode cX5_takesChild 72 = .ok (.ireturn, 1) := by decide +kernel
theorem dX5_takesSaying_0 : decode cX5_takesSaying 0 = .ok (.aload_n 0, 1) := by decide +kernel
theorem dX5_takesSaying_1 : decode cX5_takesSaying 1 = .ok (.iload_n 2, 1) := by decide +kernel
theorem dX5_takesSaying_2 : decode cX5_takesSaying 2 = .ok (.invokevirtual 54, 3) := by decide +kernel
theorem dX5_takesSaying_5 : decode cX5_takesSaying 5 = .ok (.ifCond .eq 11, 3) := by decide +kernel
theorem dX5_takesSaying_8 : decode cX5_takesSaying 8 = .ok (.aload_n 0, 1) := by decide +kernel
theorem dX5_takesSaying_9 : decode cX5_takesSaying 9 = .ok (.iload_n 3, 1) := by decide +kernel
theorem dX5_takesSaying_10 : decode cX5_takesSaying 10 = .ok (.invokevirtual 54, 3) := by decide +kernel
theorem dX5_takesSaying_13 : decode cX5_takesSaying 13 = .ok (.ifCond .ne 5, 3) := by decide +kernel
theorem dX5_takesSaying_16 : decode cX5_takesSaying 16 = .ok (.iconst 0, 1) := by decide +kernel
theorem dX5_takesSaying_17 : decode cX5_takesSaying 17 = .ok (.ireturn, 1) := by decide +kernel
theorem dX5_takesSaying_18 : decode cX5_takesSaying 18 = .ok (.aload_n 0, 1) := by decide +kernel
theorem dX5_takesSaying_19 : decode cX5_takesSaying 19 = .ok (.getfield 27, 3) := by decide +kernel
theorem dX5_takesSaying_22 : decode cX5_takesSaying 22 = .ok (.iload_n 1, 1) := by decide +kernel
theorem dX5_takesSaying_23 : decode cX5_takesSaying 23 = .ok (.bipush 10, 2) := by decide +kernel
theorem dX5_takesSaying_25 : decode cX5_takesSaying 25 = .ok (.imul, 1) := by decide +kernel
theorem dX5_takesSaying_26 : decode cX5_takesSaying 26 = .ok (.iload_n 2, 1) := by decide +kernel
theorem dX5_takesSaying_27 : decode cX5_takesSaying 27 = .ok (.iadd, 1) := by decide +kernel
theorem dX5_takesSaying_28 : decode cX5_takesSaying 28 = .ok (.iload_n 3, 1) := by decide +kernel
theorem dX5_takesSaying_29 : decode cX5_takesSaying 29 = .ok (.iconst 1, 1) := by decide +kernel
theorem dX5_takesSaying_30 : decode cX5_takesSaying 30 = .ok (.iadd, 1) := by decide +kernel
theorem dX5_takesSaying_31 : decode cX5_takesSaying 31 = .ok (.invokestatic 98, 3) := by decide +kernel
theorem dX5_takesSaying_34 : decode cX5_takesSaying 34 = .ok (.iconst 1, 1) := by decide +kernel
theorem dX5_takesSaying_35 : decode cX5_takesSaying 35 = .ok (.ireturn, 1) := by decide +kernel
theorem dX5_madeWay_0 : decode cX5_madeWay 0 = .ok (.iload_n 0, 1) := by decide +kernel
theorem dX5_madeWay_1 : decode cX5_madeWay 1 = .ok (.tableswitch 143 0 7 #[47, 59, 71, 83, 95, 107, 119, 131], 47) := by decide +kernel
theorem dX5_madeWay_48 : decode cX5_madeWay 48 = .ok (.new 9, 3) := by decide +kernel
theorem dX5_madeWay_51 : decode cX5_madeWay 51 = .ok (.dup, 1) := by decide +kernel
theorem dX5_madeWay_52 : decode cX5_madeWay 52 = .ok (.iload_n 0, 1) := by decide +kernel
theorem dX5_madeWay_53 : decode cX5_madeWay 53 = .ok (.iload_n 1, 1) := by decide +kernel
theorem dX5_madeWay_54 : decode cX5_madeWay 54 = .ok (.iload_n 2, 1) := by decide +kernel
theorem dX5_madeWay_55 : decode cX5_madeWay 55 = .ok (.iload_n 3, 1) := by decide +kernel
theorem dX5_madeWay_56 : decode cX5_madeWay 56 = .ok (.invokespecial 118, 3) := by decide +kernel
theorem dX5_madeWay_59 : decode cX5_madeWay 59 = .ok (.areturn, 1) := by decide +kernel
theorem dX5_madeWay_60 : decode cX5_madeWay 60 = .ok (.new 121, 3) := by decide +kernel
theorem dX5_madeWay_63 : decode cX5_madeWay 63 = .ok (.dup, 1) := by decide +kernel
theorem dX5_madeWay_64 : decode cX5_madeWay 64 = .ok (.iload_n 0, 1) := by decide +kernel
theorem dX5_madeWay_65 : decode cX5_madeWay 65 = .ok (.iload_n 1, 1) := by decide +kernel
theorem dX5_madeWay_66 : decode cX5_madeWay 66 = .ok (.iload_n 2, 1) := by decide +kernel
theorem dX5_madeWay_67 : decode cX5_madeWay 67 = .ok (.iload_n 3, 1) := by decide +kernel
theorem dX5_madeWay_68 : decode cX5_madeWay 68 = .ok (.invokespecial 123, 3) := by decide +kernel
theorem dX5_madeWay_71 : decode cX5_madeWay 71 = .ok (.areturn, 1) := by decide +kernel
theorem dX5_madeWay_72 : decode cX5_madeWay 72 = .ok (.new 124, 3) := by decide +kernel
theorem dX5_madeWay_75 : decode cX5_madeWay 75 = .ok (.dup, 1) := by decide +kernel
theorem dX5_madeWay_76 : decode cX5_madeWay 76 = .ok (.iload_n 0, 1) := by decide +kernel
theorem dX5_madeWay_77 : decode cX5_madeWay 77 = .ok (.iload_n 1, 1) := by decide +kernel
theorem dX5_madeWay_78 : decode cX5_madeWay 78 = .ok (.iload_n 2, 1) := by decide +kernel
theorem dX5_madeWay_79 : decode cX5_madeWay 79 = .ok (.iload_n 3, 1) := by decide +kernel
theorem dX5_madeWay_80 : decode cX5_madeWay 80 = .ok (.invokespecial 126, 3) := by decide +kernel
theorem dX5_madeWay_83 : decode cX5_madeWay 83 = .ok (.areturn, 1) := by decide +kernel
theorem dX5_madeWay_84 : decode cX5_madeWay 84 = .ok (.new 127, 3) := by decide +kernel
theorem dX5_madeWay_87 : decode cX5_madeWay 87 = .ok (.dup, 1) := by decide +kernel
theorem dX5_madeWay_88 : decode cX5_madeWay 88 = .ok (.iload_n 0, 1) := by decide +kernel
theorem dX5_madeWay_89 : decode cX5_madeWay 89 = .ok (.iload_n 1, 1) := by decide +kernel
theorem dX5_madeWay_90 : decode cX5_madeWay 90 = .ok (.iload_n 2, 1) := by decide +kernel
theorem dX5_madeWay_91 : decode cX5_madeWay 91 = .ok (.iload_n 3, 1) := by decide +kernel
theorem dX5_madeWay_92 : decode cX5_madeWay 92 = .ok (.invokespecial 129, 3) := by decide +kernel
theorem dX5_madeWay_95 : decode cX5_madeWay 95 = .ok (.areturn, 1) := by decide +kernel
theorem dX5_madeWay_96 : decode cX5_madeWay 96 = .ok (.new 130, 3) := by decide +kernel
theorem dX5_madeWay_99 : decode cX5_madeWay 99 = .ok (.dup, 1) := by decide +kernel
theorem dX5_madeWay_100 : decode cX5_madeWay 100 = .ok (.iload_n 0, 1) := by decide +kernel
theorem dX5_madeWay_101 : decode cX5_madeWay 101 = .ok (.iload_n 1, 1) := by decide +kernel
theorem dX5_madeWay_102 : decode cX5_madeWay 102 = .ok (.iload_n 2, 1) := by decide +kernel
theorem dX5_madeWay_103 : decode cX5_madeWay 103 = .ok (.iload_n 3, 1) := by decide +kernel
theorem dX5_madeWay_104 : decode cX5_madeWay 104 = .ok (.invokespecial 132, 3) := by decide +kernel
theorem dX5_madeWay_107 : decode cX5_madeWay 107 = .ok (.areturn, 1) := by decide +kernel
theorem dX5_madeWay_108 : decode cX5_madeWay 108 = .ok (.new 133, 3) := by decide +kernel
theorem dX5_madeWay_111 : decode cX5_madeWay 111 = .ok (.dup, 1) := by decide +kernel
theorem dX5_madeWay_112 : decode cX5_madeWay 112 = .ok (.iload_n 0, 1) := by decide +kernel
theorem dX5_madeWay_113 : decode cX5_madeWay 113 = .ok (.iload_n 1, 1) := by decide +kernel
theorem dX5_madeWay_114 : decode cX5_madeWay 114 = .ok (.iload_n 2, 1) := by decide +kernel
theorem dX5_madeWay_115 : decode cX5_madeWay 115 = .ok (.iload_n 3, 1) := by decide +kernel
theorem dX5_madeWay_116 : decode cX5_madeWay 116 = .ok (.invokespecial 135, 3) := by decide +kernel
theorem dX5_madeWay_119 : decode cX5_madeWay 119 = .ok (.areturn, 1) := by decide +kernel
theorem dX5_madeWay_120 : decode cX5_madeWay 120 = .ok (.new 136, 3) := by decide +kernel
theorem dX5_madeWay_123 : decode cX5_madeWay 123 = .ok (.dup, 1) := by decide +kernel
theorem dX5_madeWay_124 : decode cX5_madeWay 124 = .ok (.iload_n 0, 1) := by decide +kernel
theorem dX5_madeWay_125 : decode cX5_madeWay 125 = .ok (.iload_n 1, 1) := by decide +kernel
theorem dX5_madeWay_126 : decode cX5_madeWay 126 = .ok (.iload_n 2, 1) := by decide +kernel
theorem dX5_madeWay_127 : decode cX5_madeWay 127 = .ok (.iload_n 3, 1) := by decide +kernel
theorem dX5_madeWay_128 : decode cX5_madeWay 128 = .ok (.invokespecial 138, 3) := by decide +kernel
theorem dX5_madeWay_131 : decode cX5_madeWay 131 = .ok (.areturn, 1) := by decide +kernel
theorem dX5_madeWay_132 : decode cX5_madeWay 132 = .ok (.new 139, 3) := by decide +kernel
theorem dX5_madeWay_135 : decode cX5_madeWay 135 = .ok (.dup, 1) := by decide +kernel
theorem dX5_madeWay_136 : decode cX5_madeWay 136 = .ok (.iload_n 0, 1) := by decide +kernel
theorem dX5_madeWay_137 : decode cX5_madeWay 137 = .ok (.iload_n 1, 1) := by decide +kernel
theorem dX5_madeWay_138 : decode cX5_madeWay 138 = .ok (.iload_n 2, 1) := by decide +kernel
theorem dX5_madeWay_139 : decode cX5_madeWay 139 = .ok (.iload_n 3, 1) := by decide +kernel
theorem dX5_madeWay_140 : decode cX5_madeWay 140 = .ok (.invokespecial 141, 3) := by decide +kernel
theorem dX5_madeWay_143 : decode cX5_madeWay 143 = .ok (.areturn, 1) := by decide +kernel
theorem dX5_madeWay_144 : decode cX5_madeWay 144 = .ok (.aconst_null, 1) := by decide +kernel
theorem dX5_madeWay_145 : decode cX5_madeWay 145 = .ok (.areturn, 1) := by decide +kernel
theorem dX6_init_0 : decode cX6_init 0 = .ok (.aload_n 0, 1) := by decide +kernel
theorem dX6_init_1 : decode cX6_init 1 = .ok (.invokespecial 3, 3) := by decide +kernel
theorem dX6_init_4 : decode cX6_init 4 = .ok (.aload_n 0, 1) := by decide +kernel
theorem dX6_init_5 : decode cX6_init 5 = .ok (.iconst (-1), 1) := by decide +kernel
theorem dX6_init_6 : decode cX6_init 6 = .ok (.putfield 9, 3) := by decide +kernel
theorem dX6_init_9 : decode cX6_init 9 = .ok (.aload_n 0, 1) := by decide +kernel
theorem dX6_init_10 : decode cX6_init 10 = .ok (.bipush 100, 2) := by decide +kernel
theorem dX6_init_12 : decode cX6_init 12 = .ok (.newarray .int, 2) := by decide +kernel
theorem dX6_init_14 : decode cX6_init 14 = .ok (.putfield 15, 3) := by decide +kernel
theorem dX6_init_17 : decode cX6_init 17 = .ok (.return_, 1) := by decide +kernel
theorem dX6_isEmpty_0 : decode cX6_isEmpty 0 = .ok (.aload_n 0, 1) := by decide +kernel
theorem dX6_isEmpty_1 : decode cX6_isEmpty 1 = .ok (.getfield 19, 3) := by decide +kernel
theorem dX6_isEmpty_4 : decode cX6_isEmpty 4 = .ok (.ifnonnull 15, 3) := by decide +kernel
theorem dX6_isEmpty_7 : decode cX6_isEmpty 7 = .ok (.aload_n 0, 1) := by decide +kernel
theorem dX6_isEmpty_8 : decode cX6_isEmpty 8 = .ok (.getfield 9, 3) := by decide +kernel
theorem dX6_isEmpty_11 : decode cX6_isEmpty 11 = .ok (.iconst (-1), 1) := by decide +kernel
theorem dX6_isEmpty_12 : decode cX6_isEmpty 12 = .ok (.if_icmp .ne 7, 3) := by decide +kernel
theorem dX6_isEmpty_15 : decode cX6_isEmpty 15 = .ok (.iconst 1, 1) := by decide +kernel
theorem dX6_isEmpty_16 : decode cX6_isEmpty 16 = .ok (.goto 4, 3) := by decide +kernel
theorem dX6_isEmpty_19 : decode cX6_isEmpty 19 = .ok (.iconst 0, 1) := by decide +kernel
theorem dX6_isEmpty_20 : decode cX6_isEmpty 20 = .ok (.ireturn, 1) := by decide +kernel
theorem dX6_rowRefusal_0 : decode cX6_rowRefusal 0 = .ok (.aload_n 0, 1) := by decide +kernel
theorem dX6_rowRefusal_1 : decode cX6_rowRefusal 1 = .ok (.invokevirtual 23, 3) := by decide +kernel
theorem dX6_rowRefusal_4 : decode cX6_rowRefusal 4 = .ok (.ifCond .eq 6, 3) := by decide +kernel
theorem dX6_rowRefusal_7 : decode cX6_rowRefusal 7 = .ok (.bipush (-11), 2) := by decide +kernel
theorem dX6_rowRefusal_9 : decode cX6_rowRefusal 9 = .ok (.ireturn, 1) := by decide +kernel
theorem dX6_rowRefusal_10 : decode cX6_rowRefusal 10 = .ok (.aload_n 0, 1) := by decide +kernel
theorem dX6_rowRefusal_11 : decode cX6_rowRefusal 11 = .ok (.getfield 9, 3) := by decide +kernel
theorem dX6_rowRefusal_14 : decode cX6_rowRefusal 14 = .ok (.iconst (-1), 1) := by decide +kernel
theorem dX6_rowRefusal_15 : decode cX6_rowRefusal 15 = .ok (.if_icmp .ne 8, 3) := by decide +kernel
theorem dX6_rowRefusal_18 : decode cX6_rowRefusal 18 = .ok (.bipush (-12), 2) := by decide +kernel
theorem dX6_rowRefusal_20 : decode cX6_rowRefusal 20 = .ok (.goto 4, 3) := by decide +kernel
theorem dX6_rowRefusal_23 : decode cX6_rowRefusal 23 = .ok (.iconst 0, 1) := by decide +kernel
theorem dX6_rowRefusal_24 : decode cX6_rowRefusal 24 = .ok (.ireturn, 1) := by decide +kernel
theorem dX6_sortRefusal_0 : decode cX6_sortRefusal 0 = .ok (.aload_n 0, 1) := by decide +kernel
theorem dX6_sortRefusal_1 : decode cX6_sortRefusal 1 = .ok (.invokevirtual 27, 3) := by decide +kernel
theorem dX6_sortRefusal_4 : decode cX6_sortRefusal 4 = .ok (.istore_n 2, 1) := by decide +kernel
theorem dX6_sortRefusal_5 : decode cX6_sortRefusal 5 = .ok (.iload_n 2, 1) := by decide +kernel
theorem dX6_sortRefusal_6 : decode cX6_sortRefusal 6 = .ok (.ifCond .ne 16, 3) := by decide +kernel
theorem dX6_sortRefusal_9 : decode cX6_sortRefusal 9 = .ok (.aload_n 0, 1) := by decide +kernel
theorem dX6_sortRefusal_10 : decode cX6_sortRefusal 10 = .ok (.getfield 9, 3) := by decide +kernel
theorem dX6_sortRefusal_13 : decode cX6_sortRefusal 13 = .ok (.iload_n 1, 1) := by decide +kernel
theorem dX6_sortRefusal_14 : decode cX6_sortRefusal 14 = .ok (.if_icmp .eq 8, 3) := by decide +kernel
theorem dX6_sortRefusal_17 : decode cX6_sortRefusal 17 = .ok (.bipush (-12), 2) := by decide +kernel
theorem dX6_sortRefusal_19 : decode cX6_sortRefusal 19 = .ok (.goto 4, 3) := by decide +kernel
theorem dX6_sortRefusal_22 : decode cX6_sortRefusal 22 = .ok (.iload_n 2, 1) := by decide +kernel
theorem dX6_sortRefusal_23 : decode cX6_sortRefusal 23 = .ok (.ireturn, 1) := by decide +kernel
theorem dX6_wayRefusal_0 : decode cX6_wayRefusal 0 = .ok (.aload_n 0, 1) := by decide +kernel
theorem dX6_wayRefusal_1 : decode cX6_wayRefusal 1 = .ok (.invokevirtual 23, 3) := by decide +kernel
theorem dX6_wayRefusal_4 : decode cX6_wayRefusal 4 = .ok (.ifCond .eq 8, 3) := by decide +kernel
theorem dX6_wayRefusal_7 : decode cX6_wayRefusal 7 = .ok (.bipush (-11), 2) := by decide +kernel
theorem dX6_wayRefusal_9 : decode cX6_wayRefusal 9 = .ok (.goto 5, 3) := by decide +kernel
theorem dX6_wayRefusal_12 : decode cX6_wayRefusal 12 = .ok (.bipush (-12), 2) := by decide +kernel
theorem dX6_wayRefusal_14 : decode cX6_wayRefusal 14 = .ok (.ireturn, 1) := by decide +kernel
theorem dX6_takeWay_0 : decode cX6_takeWay 0 = .ok (.aload_n 0, 1) := by decide +kernel
theorem dX6_takeWay_1 : decode cX6_takeWay 1 = .ok (.aload_n 1, 1) := by decide +kernel
theorem dX6_takeWay_2 : decode cX6_takeWay 2 = .ok (.putfield 19, 3) := by decide +kernel
theorem dX6_takeWay_5 : decode cX6_takeWay 5 = .ok (.aload_n 0, 1) := by decide +kernel
theorem dX6_takeWay_6 : decode cX6_takeWay 6 = .ok (.iconst (-1), 1) := by decide +kernel
theorem dX6_takeWay_7 : decode cX6_takeWay 7 = .ok (.putfield 9, 3) := by decide +kernel
theorem dX6_takeWay_10 : decode cX6_takeWay 10 = .ok (.aload_n 0, 1) := by decide +kernel
theorem dX6_takeWay_11 : decode cX6_takeWay 11 = .ok (.iconst 0, 1) := by decide +kernel
theorem dX6_takeWay_12 : decode cX6_takeWay 12 = .ok (.putfield 31, 3) := by decide +kernel
theorem dX6_takeWay_15 : decode cX6_takeWay 15 = .ok (.return_, 1) := by decide +kernel
theorem dX6_takeRow_0 : decode cX6_takeRow 0 = .ok (.aload_n 0, 1) := by decide +kernel
theorem dX6_takeRow_1 : decode cX6_takeRow 1 = .ok (.aconst_null, 1) := by decide +kernel
theorem dX6_takeRow_2 : decode cX6_takeRow 2 = .ok (.putfield 19, 3) := by decide +kernel
theorem dX6_takeRow_5 : decode cX6_takeRow 5 = .ok (.aload_n 0, 1) := by decide +kernel
theorem dX6_takeRow_6 : decode cX6_takeRow 6 = .ok (.iload_n 1, 1) := by decide +kernel
theorem dX6_takeRow_7 : decode cX6_takeRow 7 = .ok (.putfield 9, 3) := by decide +kernel
theorem dX6_takeRow_10 : decode cX6_takeRow 10 = .ok (.aload_n 0, 1) := by decide +kernel
theorem dX6_takeRow_11 : decode cX6_takeRow 11 = .ok (.iload_n 2, 1) := by decide +kernel
theorem dX6_takeRow_12 : decode cX6_takeRow 12 = .ok (.putfield 31, 3) := by decide +kernel
theorem dX6_takeRow_15 : decode cX6_takeRow 15 = .ok (.iconst 0, 1) := by decide +kernel
theorem dX6_takeRow_16 : decode cX6_takeRow 16 = .ok (.istore_n 3, 1) := by decide +kernel
theorem dX6_takeRow_17 : decode cX6_takeRow 17 = .ok (.iload_n 3, 1) := by decide +kernel
theorem dX6_takeRow_18 : decode cX6_takeRow 18 = .ok (.aload_n 0, 1) := by decide +kernel
theorem dX6_takeRow_19 : decode cX6_takeRow 19 = .ok (.getfield 15, 3) := by decide +kernel
theorem dX6_takeRow_22 : decode cX6_takeRow 22 = .ok (.arraylength, 1) := by decide +kernel
theorem dX6_takeRow_23 : decode cX6_takeRow 23 = .ok (.if_icmp .ge 16, 3) := by decide +kernel
theorem dX6_takeRow_26 : decode cX6_takeRow 26 = .ok (.aload_n 0, 1) := by decide +kernel
theorem dX6_takeRow_27 : decode cX6_takeRow 27 = .ok (.getfield 15, 3) := by decide +kernel
theorem dX6_takeRow_30 : decode cX6_takeRow 30 = .ok (.iload_n 3, 1) := by decide +kernel
theorem dX6_takeRow_31 : decode cX6_takeRow 31 = .ok (.iconst 0, 1) := by decide +kernel
theorem dX6_takeRow_32 : decode cX6_takeRow 32 = .ok (.iastore, 1) := by decide +kernel
theorem dX6_takeRow_33 : decode cX6_takeRow 33 = .ok (.iinc 3 1, 3) := by decide +kernel
theorem dX6_takeRow_36 : decode cX6_takeRow 36 = .ok (.goto (-19), 3) := by decide +kernel
theorem dX6_takeRow_39 : decode cX6_takeRow 39 = .ok (.return_, 1) := by decide +kernel
theorem dX6_hasPlace_0 : decode cX6_hasPlace 0 = .ok (.iload_n 1, 1) := by decide +kernel
theorem dX6_hasPlace_1 : decode cX6_hasPlace 1 = .ok (.ifCond .lt 15, 3) := by decide +kernel
theorem dX6_hasPlace_4 : decode cX6_hasPlace 4 = .ok (.iload_n 1, 1) := by decide +kernel
theorem dX6_hasPlace_5 : decode cX6_hasPlace 5 = .ok (.aload_n 0, 1) := by decide +kernel
theorem dX6_hasPlace_6 : decode cX6_hasPlace 6 = .ok (.getfield 31, 3) := by decide +kernel
theorem dX6_hasPlace_9 : decode cX6_hasPlace 9 = .ok (.if_icmp .ge 7, 3) := by decide +kernel
theorem dX6_hasPlace_12 : decode cX6_hasPlace 12 = .ok (.iconst 1, 1) := by decide +kernel
theorem dX6_hasPlace_13 : decode cX6_hasPlace 13 = .ok (.goto 4, 3) := by decide +kernel
theorem dX6_hasPlace_16 : decode cX6_hasPlace 16 = .ok (.iconst 0, 1) := by decide +kernel
theorem dX6_hasPlace_17 : decode cX6_hasPlace 17 = .ok (.ireturn, 1) := by decide +kernel
theorem dX6_hasPlaces_0 : decode cX6_hasPlaces 0 = .ok (.iload_n 1, 1) := by decide +kernel
theorem dX6_hasPlaces_1 : decode cX6_hasPlaces 1 = .ok (.ifCond .lt 29, 3) := by decide +kernel
theorem dX6_hasPlaces_4 : decode cX6_hasPlaces 4 = .ok (.iload_n 2, 1) := by decide +kernel
theorem dX6_hasPlaces_5 : decode cX6_hasPlaces 5 = .ok (.ifCond .lt 25, 3) := by decide +kernel
theorem dX6_hasPlaces_8 : decode cX6_hasPlaces 8 = .ok (.iload_n 1, 1) := by decide +kernel
theorem dX6_hasPlaces_9 : decode cX6_hasPlaces 9 = .ok (.aload_n 0, 1) := by decide +kernel
theorem dX6_hasPlaces_10 : decode cX6_hasPlaces 10 = .ok (.getfield 31, 3) := by decide +kernel
theorem dX6_hasPlaces_13 : decode cX6_hasPlaces 13 = .ok (.if_icmp .gt 17, 3) := by decide +kernel
theorem dX6_hasPlaces_16 : decode cX6_hasPlaces 16 = .ok (.iload_n 2, 1) := by decide +kernel
theorem dX6_hasPlaces_17 : decode cX6_hasPlaces 17 = .ok (.aload_n 0, 1) := by decide +kernel
theorem dX6_hasPlaces_18 : decode cX6_hasPlaces 18 = .ok (.getfield 31, 3) := by decide +kernel
theorem dX6_hasPlaces_21 : decode cX6_hasPlaces 21 = .ok (.iload_n 1, 1) := by decide +kernel
theorem dX6_hasPlaces_22 : decode cX6_hasPlaces 22 = .ok (.isub, 1) := by decide +kernel
theorem dX6_hasPlaces_23 : decode cX6_hasPlaces 23 = .ok (.if_icmp .gt 7, 3) := by decide +kernel
theorem dX6_hasPlaces_26 : decode cX6_hasPlaces 26 = .ok (.iconst 1, 1) := by decide +kernel
theorem dX6_hasPlaces_27 : decode cX6_hasPlaces 27 = .ok (.goto 4, 3) := by decide +kernel
theorem dX6_hasPlaces_30 : decode cX6_hasPlaces 30 = .ok (.iconst 0, 1) := by decide +kernel
theorem dX6_hasPlaces_31 : decode cX6_hasPlaces 31 = .ok (.ireturn, 1) := by decide +kernel
theorem dX6_get_0 : decode cX6_get 0 = .ok (.aload_n 0, 1) := by decide +kernel
theorem dX6_get_1 : decode cX6_get 1 = .ok (.iload_n 1, 1) := by decide +kernel
theorem dX6_get_2 : decode cX6_get 2 = .ok (.invokevirtual 34, 3) := by decide +kernel
theorem dX6_get_5 : decode cX6_get 5 = .ok (.ifCond .eq 14, 3) := by decide +kernel
theorem dX6_get_8 : decode cX6_get 8 = .ok (.aload_n 0, 1) := by decide +kernel
theorem dX6_get_9 : decode cX6_get 9 = .ok (.getfield 15, 3) := by decide +kernel
theorem dX6_get_12 : decode cX6_get 12 = .ok (.iload_n 1, 1) := by decide +kernel
theorem dX6_get_13 : decode cX6_get 13 = .ok (.invokestatic 38, 3) := by decide +kernel
theorem dX6_get_16 : decode cX6_get 16 = .ok (.goto 4, 3) := by decide +kernel
theorem dX6_get_19 : decode cX6_get 19 = .ok (.iconst 0, 1) := by decide +kernel
theorem dX6_get_20 : decode cX6_get 20 = .ok (.ireturn, 1) := by decide +kernel
theorem dX6_store_0 : decode cX6_store 0 = .ok (.aload_n 0, 1) := by decide +kernel
theorem dX6_store_1 : decode cX6_store 1 = .ok (.iload_n 1, 1) := by decide +kernel
theorem dX6_store_2 : decode cX6_store 2 = .ok (.invokevirtual 34, 3) := by decide +kernel
theorem dX6_store_5 : decode cX6_store 5 = .ok (.ifCond .eq 37, 3) := by decide +kernel
theorem dX6_store_8 : decode cX6_store 8 = .ok (.aload_n 0, 1) := by decide +kernel
theorem dX6_store_9 : decode cX6_store 9 = .ok (.getfield 15, 3) := by decide +kernel
theorem dX6_store_12 : decode cX6_store 12 = .ok (.iload_n 1, 1) := by decide +kernel
theorem dX6_store_13 : decode cX6_store 13 = .ok (.aload_n 0, 1) := by decide +kernel
theorem dX6_store_14 : decode cX6_store 14 = .ok (.getfield 9, 3) := by decide +kernel
theorem dX6_store_17 : decode cX6_store 17 = .ok (.ifCond .ne 8, 3) := by decide +kernel
theorem dX6_store_20 : decode cX6_store 20 = .ok (.iload_n 2, 1) := by decide +kernel
theorem dX6_store_21 : decode cX6_store 21 = .ok (.i2b, 1) := by decide +kernel
theorem dX6_store_22 : decode cX6_store 22 = .ok (.goto 17, 3) := by decide +kernel
theorem dX6_store_25 : decode cX6_store 25 = .ok (.aload_n 0, 1) := by decide +kernel
theorem dX6_store_26 : decode cX6_store 26 = .ok (.getfield 9, 3) := by decide +kernel
theorem dX6_store_29 : decode cX6_store 29 = .ok (.iconst 1, 1) := by decide +kernel
theorem dX6_store_30 : decode cX6_store 30 = .ok (.if_icmp .ne 8, 3) := by decide +kernel
theorem dX6_store_33 : decode cX6_store 33 = .ok (.iload_n 2, 1) := by decide +kernel
theorem dX6_store_34 : decode cX6_store 34 = .ok (.i2s, 1) := by decide +kernel
theorem dX6_store_35 : decode cX6_store 35 = .ok (.goto 4, 3) := by decide +kernel
theorem dX6_store_38 : decode cX6_store 38 = .ok (.iload_n 2, 1) := by decide +kernel
theorem dX6_store_39 : decode cX6_store 39 = .ok (.invokestatic 42, 3) := by decide +kernel
theorem dX6_store_42 : decode cX6_store 42 = .ok (.return_, 1) := by decide +kernel
theorem dX6_leastOfSort_0 : decode cX6_leastOfSort 0 = .ok (.aload_n 0, 1) := by decide +kernel
theorem dX6_leastOfSort_1 : decode cX6_leastOfSort 1 = .ok (.getfield 9, 3) := by decide +kernel
theorem dX6_leastOfSort_4 : decode cX6_leastOfSort 4 = .ok (.ifCond .ne 8, 3) := by decide +kernel
theorem dX6_leastOfSort_7 : decode cX6_leastOfSort 7 = .ok (.bipush (-128), 2) := by decide +kernel
theorem dX6_leastOfSort_9 : decode cX6_leastOfSort 9 = .ok (.goto 19, 3) := by decide +kernel
theorem dX6_leastOfSort_12 : decode cX6_leastOfSort 12 = .ok (.aload_n 0, 1) := by decide +kernel
theorem dX6_leastOfSort_13 : decode cX6_leastOfSort 13 = .ok (.getfield 9, 3) := by decide +kernel
theorem dX6_leastOfSort_16 : decode cX6_leastOfSort 16 = .ok (.iconst 1, 1) := by decide +kernel
theorem dX6_leastOfSort_17 : decode cX6_leastOfSort 17 = .ok (.if_icmp .ne 9, 3) := by decide +kernel
theorem dX6_leastOfSort_20 : decode cX6_leastOfSort 20 = .ok (.sipush (-32768), 3) := by decide +kernel
theorem dX6_leastOfSort_23 : decode cX6_leastOfSort 23 = .ok (.goto 5, 3) := by decide +kernel
theorem dX6_leastOfSort_26 : decode cX6_leastOfSort 26 = .ok (.ldc 46, 2) := by decide +kernel
theorem dX6_leastOfSort_28 : decode cX6_leastOfSort 28 = .ok (.ireturn, 1) := by decide +kernel
theorem dX7_init_0 : decode cX7_init 0 = .ok (.aload_n 0, 1) := by decide +kernel
theorem dX7_init_1 : decode cX7_init 1 = .ok (.iload_n 1, 1) := by decide +kernel
theorem dX7_init_2 : decode cX7_init 2 = .ok (.iload_n 2, 1) := by decide +kernel
theorem dX7_init_3 : decode cX7_init 3 = .ok (.iload_n 3, 1) := by decide +kernel
theorem dX7_init_4 : decode cX7_init 4 = .ok (.iload 4, 2) := by decide +kernel
theorem dX7_init_6 : decode cX7_init 6 = .ok (.invokespecial 3, 3) := by decide +kernel
theorem dX7_init_9 : decode cX7_init 9 = .ok (.return_, 1) := by decide +kernel
theorem dX7_teachingCost_0 : decode cX7_teachingCost 0 = .ok (.iconst 2, 1) := by decide +kernel
theorem dX7_teachingCost_1 : decode cX7_teachingCost 1 = .ok (.aload_n 0, 1) := by decide +kernel
theorem dX7_teachingCost_2 : decode cX7_teachingCost 2 = .ok (.invokespecial 9, 3) := by decide +kernel
theorem dX7_teachingCost_5 : decode cX7_teachingCost 5 = .ok (.imul, 1) := by decide +kernel
theorem dX7_teachingCost_6 : decode cX7_teachingCost 6 = .ok (.iconst 1, 1) := by decide +kernel
theorem dX7_teachingCost_7 : decode cX7_teachingCost 7 = .ok (.iadd, 1) := by decide +kernel
theorem dX7_teachingCost_8 : decode cX7_teachingCost 8 = .ok (.ireturn, 1) := by decide +kernel
theorem dX7_writes_0 : decode cX7_writes 0 = .ok (.iload_n 2, 1) := by decide +kernel
theorem dX7_writes_1 : decode cX7_writes 1 = .ok (.iconst 3, 1) := by decide +kernel
theorem dX7_writes_2 : decode cX7_writes 2 = .ok (.if_icmp .ne 7, 3) := by decide +kernel
theorem dX7_writes_5 : decode cX7_writes 5 = .ok (.iconst 0, 1) := by decide +kernel
theorem dX7_writes_6 : decode cX7_writes 6 = .ok (.goto 12, 3) := by decide +kernel
theorem dX7_writes_9 : decode cX7_writes 9 = .ok (.aload_n 0, 1) := by decide +kernel
theorem dX7_writes_10 : decode cX7_writes 10 = .ok (.aload_n 1, 1) := by decide +kernel
theorem dX7_writes_11 : decode cX7_writes 11 = .ok (.iload_n 2, 1) := by decide +kernel
theorem dX7_writes_12 : decode cX7_writes 12 = .ok (.iload_n 3, 1) := by decide +kernel
theorem dX7_writes_13 : decode cX7_writes 13 = .ok (.iload 4, 2) := by decide +kernel
theorem dX7_writes_15 : decode cX7_writes 15 = .ok (.invokespecial 13, 3) := by decide +kernel
theorem dX7_writes_18 : decode cX7_writes 18 = .ok (.ireturn, 1) := by decide +kernel
theorem dX7_fail_0 : decode cX7_fail 0 = .ok (.new 17, 3) := by decide +kernel
theorem dX7_fail_3 : decode cX7_fail 3 = .ok (.dup, 1) := by decide +kernel
theorem dX7_fail_4 : decode cX7_fail 4 = .ok (.ldc 19, 2) := by decide +kernel
theorem dX7_fail_6 : decode cX7_fail 6 = .ok (.invokespecial 21, 3) := by decide +kernel
theorem dX7_fail_9 : decode cX7_fail 9 = .ok (.athrow, 1) := by decide +kernel
theorem dX8_init_0 : decode cX8_init 0 = .ok (.aload_n 0, 1) := by decide +kernel
theorem dX8_init_1 : decode cX8_init 1 = .ok (.iload_n 1, 1) := by decide +kernel
theorem dX8_init_2 : decode cX8_init 2 = .ok (.iload_n 2, 1) := by decide +kernel
theorem dX8_init_3 : decode cX8_init 3 = .ok (.iload_n 3, 1) := by decide +kernel
theorem dX8_init_4 : decode cX8_init 4 = .ok (.iload 4, 2) := by decide +kernel
theorem dX8_init_6 : decode cX8_init 6 = .ok (.invokespecial 1, 3) := by decide +kernel
theorem dX8_init_9 : decode cX8_init 9 = .ok (.return_, 1) := by decide +kernel
theorem dX8_teachingCost_0 : decode cX8_teachingCost 0 = .ok (.aload_n 0, 1) := by decide +kernel
theorem dX8_teachingCost_1 : decode cX8_teachingCost 1 = .ok (.invokespecial 7, 3) := by decide +kernel
theorem dX8_teachingCost_4 : decode cX8_teachingCost 4 = .ok (.bipush 8, 2) := by decide +kernel
theorem dX8_teachingCost_6 : decode cX8_teachingCost 6 = .ok (.iadd, 1) := by decide +kernel
theorem dX8_teachingCost_7 : decode cX8_teachingCost 7 = .ok (.ireturn, 1) := by decide +kernel
theorem dX8_writes_0 : decode cX8_writes 0 = .ok (.iload 4, 2) := by decide +kernel
theorem dX8_writes_2 : decode cX8_writes 2 = .ok (.iload_n 3, 1) := by decide +kernel
theorem dX8_writes_3 : decode cX8_writes 3 = .ok (.isub, 1) := by decide +kernel
theorem dX8_writes_4 : decode cX8_writes 4 = .ok (.ireturn, 1) := by decide +kernel
theorem dX9_init_0 : decode cX9_init 0 = .ok (.aload_n 0, 1) := by decide +kernel
theorem dX9_init_1 : decode cX9_init 1 = .ok (.invokespecial 1, 3) := by decide +kernel
theorem dX9_init_4 : decode cX9_init 4 = .ok (.aload_n 0, 1) := by decide +kernel
theorem dX9_init_5 : decode cX9_init 5 = .ok (.iload_n 1, 1) := by decide +kernel
theorem dX9_init_6 : decode cX9_init 6 = .ok (.putfield 7, 3) := by decide +kernel
theorem dX9_init_9 : decode cX9_init 9 = .ok (.aload_n 0, 1) := by decide +kernel
theorem dX9_init_10 : decode cX9_init 10 = .ok (.iload_n 2, 1) := by decide +kernel
theorem dX9_init_11 : decode cX9_init 11 = .ok (.putfield 13, 3) := by decide +kernel
theorem dX9_init_14 : decode cX9_init 14 = .ok (.aload_n 0, 1) := by decide +kernel
theorem dX9_init_15 : decode cX9_init 15 = .ok (.iload_n 3, 1) := by decide +kernel
theorem dX9_init_16 : decode cX9_init 16 = .ok (.putfield 16, 3) := by decide +kernel
theorem dX9_init_19 : decode cX9_init 19 = .ok (.aload_n 0, 1) := by decide +kernel
theorem dX9_init_20 : decode cX9_init 20 = .ok (.iload 4, 2) := by decide +kernel
theorem dX9_init_22 : decode cX9_init 22 = .ok (.putfield 19, 3) := by decide +kernel
theorem dX9_init_25 : decode cX9_init 25 = .ok (.return_, 1) := by decide +kernel
theorem dX9_teachingCost_0 : decode cX9_teachingCost 0 = .ok (.iconst 0, 1) := by decide +kernel
theorem dX9_teachingCost_1 : decode cX9_teachingCost 1 = .ok (.ireturn, 1) := by decide +kernel
theorem dX9_writes_0 : decode cX9_writes 0 = .ok (.aload_n 1, 1) := by decide +kernel
theorem dX9_writes_1 : decode cX9_writes 1 = .ok (.iload_n 2, 1) := by decide +kernel
theorem dX9_writes_2 : decode cX9_writes 2 = .ok (.iconst 1, 1) := by decide +kernel
theorem dX9_writes_3 : decode cX9_writes 3 = .ok (.invokevirtual 22, 3) := by decide +kernel
theorem dX9_writes_6 : decode cX9_writes 6 = .ok (.ireturn, 1) := by decide +kernel
theorem dX9_hasFailure_0 : decode cX9_hasFailure 0 = .ok (.aload_n 0, 1) := by decide +kernel
theorem dX9_hasFailure_1 : decode cX9_hasFailure 1 = .ok (.getfield 16, 3) := by decide +kernel
theorem dX9_hasFailure_4 : decode cX9_hasFailure 4 = .ok (.ifCond .eq 7, 3) := by decide +kernel
theorem dX9_hasFailure_7 : decode cX9_hasFailure 7 = .ok (.iconst 1, 1) := by decide +kernel
theorem dX9_hasFailure_8 : decode cX9_hasFailure 8 = .ok (.goto 4, 3) := by decide +kernel
theorem dX9_hasFailure_11 : decode cX9_hasFailure 11 = .ok (.iconst 0, 1) := by decide +kernel
theorem dX9_hasFailure_12 : decode cX9_hasFailure 12 = .ok (.ireturn, 1) := by decide +kernel
theorem dX9_fail_0 : decode cX9_fail 0 = .ok (.new 28, 3) := by decide +kernel
theorem dX9_fail_3 : decode cX9_fail 3 = .ok (.dup, 1) := by decide +kernel
theorem dX9_fail_4 : decode cX9_fail 4 = .ok (.ldc 30, 2) := by decide +kernel
theorem dX9_fail_6 : decode cX9_fail 6 = .ok (.invokespecial 32, 3) := by decide +kernel
theorem dX9_fail_9 : decode cX9_fail 9 = .ok (.athrow, 1) := by decide +kernel
theorem dX10_init_0 : decode cX10_init 0 = .ok (.aload_n 0, 1) := by decide +kernel
theorem dX10_init_1 : decode cX10_init 1 = .ok (.iload_n 1, 1) := by decide +kernel
theorem dX10_init_2 : decode cX10_init 2 = .ok (.iload_n 2, 1) := by decide +kernel
theorem dX10_init_3 : decode cX10_init 3 = .ok (.iload_n 3, 1) := by decide +kernel
theorem dX10_init_4 : decode cX10_init 4 = .ok (.iload 4, 2) := by decide +kernel
theorem dX10_init_6 : decode cX10_init 6 = .ok (.invokespecial 1, 3) := by decide +kernel
theorem dX10_init_9 : decode cX10_init 9 = .ok (.return_, 1) := by decide +kernel
theorem dX10_teachingCost_0 : decode cX10_teachingCost 0 = .ok (.aload_n 0, 1) := by decide +kernel
theorem dX10_teachingCost_1 : decode cX10_teachingCost 1 = .ok (.invokespecial 7, 3) := by decide +kernel
theorem dX10_teachingCost_4 : decode cX10_teachingCost 4 = .ok (.iconst 2, 1) := by decide +kernel
theorem dX10_teachingCost_5 : decode cX10_teachingCost 5 = .ok (.idiv, 1) := by decide +kernel
theorem dX10_teachingCost_6 : decode cX10_teachingCost 6 = .ok (.ireturn, 1) := by decide +kernel
theorem dX10_writes_0 : decode cX10_writes 0 = .ok (.iload_n 3, 1) := by decide +kernel
theorem dX10_writes_1 : decode cX10_writes 1 = .ok (.ifCond .ne 15, 3) := by decide +kernel
theorem dX10_writes_4 : decode cX10_writes 4 = .ok (.aload_n 0, 1) := by decide +kernel
theorem dX10_writes_5 : decode cX10_writes 5 = .ok (.aload_n 1, 1) := by decide +kernel
theorem dX10_writes_6 : decode cX10_writes 6 = .ok (.iload_n 2, 1) := by decide +kernel
theorem dX10_writes_7 : decode cX10_writes 7 = .ok (.iload_n 3, 1) := by decide +kernel
theorem dX10_writes_8 : decode cX10_writes 8 = .ok (.iload 4, 2) := by decide +kernel
theorem dX10_writes_10 : decode cX10_writes 10 = .ok (.invokespecial 11, 3) := by decide +kernel
theorem dX10_writes_13 : decode cX10_writes 13 = .ok (.goto 9, 3) := by decide +kernel
theorem dX10_writes_16 : decode cX10_writes 16 = .ok (.aload_n 1, 1) := by decide +kernel
theorem dX10_writes_17 : decode cX10_writes 17 = .ok (.iload_n 2, 1) := by decide +kernel
theorem dX10_writes_18 : decode cX10_writes 18 = .ok (.iconst 1, 1) := by decide +kernel
theorem dX10_writes_19 : decode cX10_writes 19 = .ok (.invokevirtual 15, 3) := by decide +kernel
theorem dX10_writes_22 : decode cX10_writes 22 = .ok (.ireturn, 1) := by decide +kernel
theorem dX10_hasFailure_0 : decode cX10_hasFailure 0 = .ok (.iconst 0, 1) := by decide +kernel
theorem dX10_hasFailure_1 : decode cX10_hasFailure 1 = .ok (.ireturn, 1) := by decide +kernel
theorem dX11_init_0 : decode cX11_init 0 = .ok (.aload_n 0, 1) := by decide +kernel
theorem dX11_init_1 : decode cX11_init 1 = .ok (.invokespecial 1, 3) := by decide +kernel
theorem dX11_init_4 : decode cX11_init 4 = .ok (.aload_n 0, 1) := by decide +kernel
theorem dX11_init_5 : decode cX11_init 5 = .ok (.new 7, 3) := by decide +kernel
theorem dX11_init_8 : decode cX11_init 8 = .ok (.dup, 1) := by decide +kernel
theorem dX11_init_9 : decode cX11_init 9 = .ok (.invokespecial 9, 3) := by decide +kernel
theorem dX11_init_12 : decode cX11_init 12 = .ok (.putfield 10, 3) := by decide +kernel
theorem dX11_init_15 : decode cX11_init 15 = .ok (.aload_n 0, 1) := by decide +kernel
theorem dX11_init_16 : decode cX11_init 16 = .ok (.new 7, 3) := by decide +kernel
theorem dX11_init_19 : decode cX11_init 19 = .ok (.dup, 1) := by decide +kernel
theorem dX11_init_20 : decode cX11_init 20 = .ok (.invokespecial 9, 3) := by decide +kernel
theorem dX11_init_23 : decode cX11_init 23 = .ok (.putfield 16, 3) := by decide +kernel
theorem dX11_init_26 : decode cX11_init 26 = .ok (.aload_n 0, 1) := by decide +kernel
theorem dX11_init_27 : decode cX11_init 27 = .ok (.new 7, 3) := by decide +kernel
theorem dX11_init_30 : decode cX11_init 30 = .ok (.dup, 1) := by decide +kernel
theorem dX11_init_31 : decode cX11_init 31 = .ok (.invokespecial 9, 3) := by decide +kernel
theorem dX11_init_34 : decode cX11_init 34 = .ok (.putfield 19, 3) := by decide +kernel
theorem dX11_init_37 : decode cX11_init 37 = .ok (.aload_n 0, 1) := by decide +kernel
theorem dX11_init_38 : decode cX11_init 38 = .ok (.bipush 8, 2) := by decide +kernel
theorem dX11_init_40 : decode cX11_init 40 = .ok (.anewarray 22, 3) := by decide +kernel
theorem dX11_init_43 : decode cX11_init 43 = .ok (.putfield 24, 3) := by decide +kernel
theorem dX11_init_46 : decode cX11_init 46 = .ok (.aload_n 0, 1) := by decide +kernel
theorem dX11_init_47 : decode cX11_init 47 = .ok (.new 28, 3) := by decide +kernel
theorem dX11_init_50 : decode cX11_init 50 = .ok (.dup, 1) := by decide +kernel
theorem dX11_init_51 : decode cX11_init 51 = .ok (.invokespecial 30, 3) := by decide +kernel
theorem dX11_init_54 : decode cX11_init 54 = .ok (.putfield 31, 3) := by decide +kernel
theorem dX11_init_57 : decode cX11_init 57 = .ok (.aload_n 0, 1) := by decide +kernel
theorem dX11_init_58 : decode cX11_init 58 = .ok (.bipush 12, 2) := by decide +kernel
theorem dX11_init_60 : decode cX11_init 60 = .ok (.newarray .int, 2) := by decide +kernel
theorem dX11_init_62 : decode cX11_init 62 = .ok (.putfield 35, 3) := by decide +kernel
theorem dX11_init_65 : decode cX11_init 65 = .ok (.aload_n 0, 1) := by decide +kernel
theorem dX11_init_66 : decode cX11_init 66 = .ok (.bipush 12, 2) := by decide +kernel
theorem dX11_init_68 : decode cX11_init 68 = .ok (.newarray .int, 2) := by decide +kernel
theorem dX11_init_70 : decode cX11_init 70 = .ok (.putfield 39, 3) := by decide +kernel
theorem dX11_init_73 : decode cX11_init 73 = .ok (.aload_n 0, 1) := by decide +kernel
theorem dX11_init_74 : decode cX11_init 74 = .ok (.bipush 12, 2) := by decide +kernel
theorem dX11_init_76 : decode cX11_init 76 = .ok (.newarray .int, 2) := by decide +kernel
theorem dX11_init_78 : decode cX11_init 78 = .ok (.putfield 42, 3) := by decide +kernel
theorem dX11_init_81 : decode cX11_init 81 = .ok (.aload_n 0, 1) := by decide +kernel
theorem dX11_init_82 : decode cX11_init 82 = .ok (.bipush 12, 2) := by decide +kernel
theorem dX11_init_84 : decode cX11_init 84 = .ok (.newarray .int, 2) := by decide +kernel
theorem dX11_init_86 : decode cX11_init 86 = .ok (.putfield 45, 3) := by decide +kernel
theorem dX11_init_89 : decode cX11_init 89 = .ok (.aload_n 0, 1) := by decide +kernel
theorem dX11_init_90 : decode cX11_init 90 = .ok (.bipush 10, 2) := by decide +kernel
theorem dX11_init_92 : decode cX11_init 92 = .ok (.newarray .int, 2) := by decide +kernel
theorem dX11_init_94 : decode cX11_init 94 = .ok (.putfield 48, 3) := by decide +kernel
theorem dX11_init_97 : decode cX11_init 97 = .ok (.aload_n 0, 1) := by decide +kernel
theorem dX11_init_98 : decode cX11_init 98 = .ok (.bipush 12, 2) := by decide +kernel
theorem dX11_init_100 : decode cX11_init 100 = .ok (.newarray .long, 2) := by decide +kernel
theorem dX11_init_102 : decode cX11_init 102 = .ok (.putfield 51, 3) := by decide +kernel
theorem dX11_init_105 : decode cX11_init 105 = .ok (.aload_n 0, 1) := by decide +kernel
theorem dX11_init_106 : decode cX11_init 106 = .ok (.bipush 8, 2) := by decide +kernel
theorem dX11_init_108 : decode cX11_init 108 = .ok (.newarray .int, 2) := by decide +kernel
theorem dX11_init_110 : decode cX11_init 110 = .ok (.putfield 55, 3) := by decide +kernel
theorem dX11_init_113 : decode cX11_init 113 = .ok (.iconst 0, 1) := by decide +kernel
theorem dX11_init_114 : decode cX11_init 114 = .ok (.istore_n 1, 1) := by decide +kernel
theorem dX11_init_115 : decode cX11_init 115 = .ok (.iload_n 1, 1) := by decide +kernel
theorem dX11_init_116 : decode cX11_init 116 = .ok (.bipush 8, 2) := by decide +kernel
theorem dX11_init_118 : decode cX11_init 118 = .ok (.if_icmp .ge 22, 3) := by decide +kernel
theorem dX11_init_121 : decode cX11_init 121 = .ok (.aload_n 0, 1) := by decide +kernel
theorem dX11_init_122 : decode cX11_init 122 = .ok (.getfield 24, 3) := by decide +kernel
theorem dX11_init_125 : decode cX11_init 125 = .ok (.iload_n 1, 1) := by decide +kernel
theorem dX11_init_126 : decode cX11_init 126 = .ok (.new 22, 3) := by decide +kernel
theorem dX11_init_129 : decode cX11_init 129 = .ok (.dup, 1) := by decide +kernel
theorem dX11_init_130 : decode cX11_init 130 = .ok (.invokespecial 58, 3) := by decide +kernel
theorem dX11_init_133 : decode cX11_init 133 = .ok (.aastore, 1) := by decide +kernel
theorem dX11_init_134 : decode cX11_init 134 = .ok (.iinc 1 1, 3) := by decide +kernel
theorem dX11_init_137 : decode cX11_init 137 = .ok (.goto (-22), 3) := by decide +kernel
theorem dX11_init_140 : decode cX11_init 140 = .ok (.return_, 1) := by decide +kernel
theorem dX11_group_0 : decode cX11_group 0 = .ok (.aload_n 0, 1) := by decide +kernel
theorem dX11_group_1 : decode cX11_group 1 = .ok (.iload_n 1, 1) := by decide +kernel
theorem dX11_group_2 : decode cX11_group 2 = .ok (.invokevirtual 59, 3) := by decide +kernel
theorem dX11_group_5 : decode cX11_group 5 = .ok (.astore_n 2, 1) := by decide +kernel
theorem dX11_group_6 : decode cX11_group 6 = .ok (.aload_n 2, 1) := by decide +kernel
theorem dX11_group_7 : decode cX11_group 7 = .ok (.ifnonnull 5, 3) := by decide +kernel
theorem dX11_group_10 : decode cX11_group 10 = .ok (.iconst (-1), 1) := by decide +kernel
theorem dX11_group_11 : decode cX11_group 11 = .ok (.ireturn, 1) := by decide +kernel
theorem dX11_group_12 : decode cX11_group 12 = .ok (.aload_n 2, 1) := by decide +kernel
theorem dX11_group_13 : decode cX11_group 13 = .ok (.iconst 0, 1) := by decide +kernel
theorem dX11_group_14 : decode cX11_group 14 = .ok (.invokevirtual 63, 3) := by decide +kernel
theorem dX11_group_17 : decode cX11_group 17 = .ok (.istore_n 3, 1) := by decide +kernel
theorem dX11_group_18 : decode cX11_group 18 = .ok (.iload_n 3, 1) := by decide +kernel
theorem dX11_group_19 : decode cX11_group 19 = .ok (.ifCond .eq 5, 3) := by decide +kernel
theorem dX11_group_22 : decode cX11_group 22 = .ok (.iload_n 3, 1) := by decide +kernel
theorem dX11_group_23 : decode cX11_group 23 = .ok (.ireturn, 1) := by decide +kernel
theorem dX11_group_24 : decode cX11_group 24 = .ok (.aload_n 0, 1) := by decide +kernel
theorem dX11_group_25 : decode cX11_group 25 = .ok (.getfield 16, 3) := by decide +kernel
theorem dX11_group_28 : decode cX11_group 28 = .ok (.aload_n 0, 1) := by decide +kernel
theorem dX11_group_29 : decode cX11_group 29 = .ok (.getfield 10, 3) := by decide +kernel
theorem dX11_group_32 : decode cX11_group 32 = .ok (.invokevirtual 67, 3) := by decide +kernel
theorem dX11_group_35 : decode cX11_group 35 = .ok (.aload_n 0, 1) := by decide +kernel
theorem dX11_group_36 : decode cX11_group 36 = .ok (.getfield 16, 3) := by decide +kernel
theorem dX11_group_39 : decode cX11_group 39 = .ok (.aload_n 2, 1) := by decide +kernel
theorem dX11_group_40 : decode cX11_group 40 = .ok (.invokevirtual 71, 3) := by decide +kernel
theorem dX11_group_43 : decode cX11_group 43 = .ok (.istore 4, 2) := by decide +kernel
theorem dX11_group_45 : decode cX11_group 45 = .ok (.iload 4, 2) := by decide +kernel
theorem dX11_group_47 : decode cX11_group 47 = .ok (.ifCond .le 14, 3) := by decide +kernel
theorem dX11_group_50 : decode cX11_group 50 = .ok (.aload_n 0, 1) := by decide +kernel
theorem dX11_group_51 : decode cX11_group 51 = .ok (.getfield 10, 3) := by decide +kernel
theorem dX11_group_54 : decode cX11_group 54 = .ok (.aload_n 0, 1) := by decide +kernel
theorem dX11_group_55 : decode cX11_group 55 = .ok (.getfield 16, 3) := by decide +kernel
theorem dX11_group_58 : decode cX11_group 58 = .ok (.invokevirtual 67, 3) := by decide +kernel
theorem dX11_group_61 : decode cX11_group 61 = .ok (.iload 4, 2) := by decide +kernel
theorem dX11_group_63 : decode cX11_group 63 = .ok (.ireturn, 1) := by decide +kernel
theorem dX11_way_0 : decode cX11_way 0 = .ok (.aload_n 0, 1) := by decide +kernel
theorem dX11_way_1 : decode cX11_way 1 = .ok (.getfield 10, 3) := by decide +kernel
theorem dX11_way_4 : decode cX11_way 4 = .ok (.iload_n 1, 1) := by decide +kernel
theorem dX11_way_5 : decode cX11_way 5 = .ok (.invokevirtual 75, 3) := by decide +kernel
theorem dX11_way_8 : decode cX11_way 8 = .ok (.astore_n 3, 1) := by decide +kernel
theorem dX11_way_9 : decode cX11_way 9 = .ok (.aload_n 3, 1) := by decide +kernel
theorem dX11_way_10 : decode cX11_way 10 = .ok (.ifnonnull 5, 3) := by decide +kernel
theorem dX11_way_13 : decode cX11_way 13 = .ok (.iconst (-1), 1) := by decide +kernel
theorem dX11_way_14 : decode cX11_way 14 = .ok (.ireturn, 1) := by decide +kernel
theorem dX11_way_15 : decode cX11_way 15 = .ok (.iload_n 2, 1) := by decide +kernel
theorem dX11_way_16 : decode cX11_way 16 = .ok (.tableswitch 52 0 3 #[32, 37, 42, 47], 32) := by decide +kernel
theorem dX11_way_48 : decode cX11_way 48 = .ok (.aload_n 3, 1) := by decide +kernel
theorem dX11_way_49 : decode cX11_way 49 = .ok (.getfield 79, 3) := by decide +kernel
theorem dX11_way_52 : decode cX11_way 52 = .ok (.ireturn, 1) := by decide +kernel
theorem dX11_way_53 : decode cX11_way 53 = .ok (.aload_n 3, 1) := by decide +kernel
theorem dX11_way_54 : decode cX11_way 54 = .ok (.getfield 85, 3) := by decide +kernel
theorem dX11_way_57 : decode cX11_way 57 = .ok (.ireturn, 1) := by decide +kernel
theorem dX11_way_58 : decode cX11_way 58 = .ok (.aload_n 3, 1) := by decide +kernel
theorem dX11_way_59 : decode cX11_way 59 = .ok (.getfield 88, 3) := by decide +kernel
theorem dX11_way_62 : decode cX11_way 62 = .ok (.ireturn, 1) := by decide +kernel
theorem dX11_way_63 : decode cX11_way 63 = .ok (.aload_n 3, 1) := by decide +kernel
theorem dX11_way_64 : decode cX11_way 64 = .ok (.invokevirtual 91, 3) := by decide +kernel
theorem dX11_way_67 : decode cX11_way 67 = .ok (.ireturn, 1) := by decide +kernel
theorem dX11_way_68 : decode cX11_way 68 = .ok (.iconst (-1), 1) := by decide +kernel
theorem dX11_way_69 : decode cX11_way 69 = .ok (.ireturn, 1) := by decide +kernel
theorem dX11_child_0 : decode cX11_child 0 = .ok (.aload_n 0, 1) := by decide +kernel
theorem dX11_child_1 : decode cX11_child 1 = .ok (.getfield 10, 3) := by decide +kernel
theorem dX11_child_4 : decode cX11_child 4 = .ok (.iload_n 1, 1) := by decide +kernel
theorem dX11_child_5 : decode cX11_child 5 = .ok (.invokevirtual 95, 3) := by decide +kernel
theorem dX11_child_8 : decode cX11_child 8 = .ok (.ifCond .ne 5, 3) := by decide +kernel
theorem dX11_child_11 : decode cX11_child 11 = .ok (.iconst (-1), 1) := by decide +kernel
theorem dX11_child_12 : decode cX11_child 12 = .ok (.ireturn, 1) := by decide +kernel
theorem dX11_child_13 : decode cX11_child 13 = .ok (.iload_n 2, 1) := by decide +kernel
theorem dX11_child_14 : decode cX11_child 14 = .ok (.tableswitch 62 0 2 #[26, 38, 50], 26) := by decide +kernel
theorem dX11_child_40 : decode cX11_child 40 = .ok (.aload_n 0, 1) := by decide +kernel
theorem dX11_child_41 : decode cX11_child 41 = .ok (.getfield 10, 3) := by decide +kernel
theorem dX11_child_44 : decode cX11_child 44 = .ok (.getfield 99, 3) := by decide +kernel
theorem dX11_child_47 : decode cX11_child 47 = .ok (.iload_n 1, 1) := by decide +kernel
theorem dX11_child_48 : decode cX11_child 48 = .ok (.invokestatic 102, 3) := by decide +kernel
theorem dX11_child_51 : decode cX11_child 51 = .ok (.ireturn, 1) := by decide +kernel
theorem dX11_child_52 : decode cX11_child 52 = .ok (.aload_n 0, 1) := by decide +kernel
theorem dX11_child_53 : decode cX11_child 53 = .ok (.getfield 10, 3) := by decide +kernel
theorem dX11_child_56 : decode cX11_child 56 = .ok (.getfield 106, 3) := by decide +kernel
theorem dX11_child_59 : decode cX11_child 59 = .ok (.iload_n 1, 1) := by decide +kernel
theorem dX11_child_60 : decode cX11_child 60 = .ok (.invokestatic 102, 3) := by decide +kernel
theorem dX11_child_63 : decode cX11_child 63 = .ok (.ireturn, 1) := by decide +kernel
theorem dX11_child_64 : decode cX11_child 64 = .ok (.aload_n 0, 1) := by decide +kernel
theorem dX11_child_65 : decode cX11_child 65 = .ok (.getfield 10, 3) := by decide +kernel
theorem dX11_child_68 : decode cX11_child 68 = .ok (.getfield 109, 3) := by decide +kernel
theorem dX11_child_71 : decode cX11_child 71 = .ok (.iload_n 1, 1) := by decide +kernel
theorem dX11_child_72 : decode cX11_child 72 = .ok (.invokestatic 102, 3) := by decide +kernel
theorem dX11_child_75 : decode cX11_child 75 = .ok (.ireturn, 1) := by decide +kernel
theorem dX11_child_76 : decode cX11_child 76 = .ok (.iconst (-1), 1) := by decide +kernel
theorem dX11_child_77 : decode cX11_child 77 = .ok (.ireturn, 1) := by decide +kernel
theorem dX11_told_0 : decode cX11_told 0 = .ok (.aload_n 0, 1) := by decide +kernel
theorem dX11_told_1 : decode cX11_told 1 = .ok (.getfield 10, 3) := by decide +kernel
theorem dX11_told_4 : decode cX11_told 4 = .ok (.iload_n 1, 1) := by decide +kernel
theorem dX11_told_5 : decode cX11_told 5 = .ok (.iload_n 2, 1) := by decide +kernel
theorem dX11_told_6 : decode cX11_told 6 = .ok (.invokevirtual 112, 3) := by decide +kernel
theorem dX11_told_9 : decode cX11_told 9 = .ok (.ireturn, 1) := by decide +kernel
theorem dX11_slips_0 : decode cX11_slips 0 = .ok (.aload_n 0, 1) := by decide +kernel
theorem dX11_slips_1 : decode cX11_slips 1 = .ok (.getfield 10, 3) := by decide +kernel
theorem dX11_slips_4 : decode cX11_slips 4 = .ok (.iload_n 1, 1) := by decide +kernel
theorem dX11_slips_5 : decode cX11_slips 5 = .ok (.invokevirtual 95, 3) := by decide +kernel
theorem dX11_slips_8 : decode cX11_slips 8 = .ok (.ifCond .eq 13, 3) := by decide +kernel
theorem dX11_slips_11 : decode cX11_slips 11 = .ok (.iload_n 2, 1) := by decide +kernel
theorem dX11_slips_12 : decode cX11_slips 12 = .ok (.ifCond .lt 9, 3) := by decide +kernel
theorem dX11_slips_15 : decode cX11_slips 15 = .ok (.iload_n 2, 1) := by decide +kernel
theorem dX11_slips_16 : decode cX11_slips 16 = .ok (.bipush 50, 2) := by decide +kernel
theorem dX11_slips_18 : decode cX11_slips 18 = .ok (.if_icmp .le 5, 3) := by decide +kernel
theorem dX11_slips_21 : decode cX11_slips 21 = .ok (.iconst (-1), 1) := by decide +kernel
theorem dX11_slips_22 : decode cX11_slips 22 = .ok (.ireturn, 1) := by decide +kernel
theorem dX11_slips_23 : decode cX11_slips 23 = .ok (.aload_n 0, 1) := by decide +kernel
theorem dX11_slips_24 : decode cX11_slips 24 = .ok (.getfield 10, 3) := by decide +kernel
theorem dX11_slips_27 : decode cX11_slips 27 = .ok (.getfield 106, 3) := by decide +kernel
theorem dX11_slips_30 : decode cX11_slips 30 = .ok (.iload_n 1, 1) := by decide +kernel
theorem dX11_slips_31 : decode cX11_slips 31 = .ok (.invokestatic 102, 3) := by decide +kernel
theorem dX11_slips_34 : decode cX11_slips 34 = .ok (.istore_n 3, 1) := by decide +kernel
theorem dX11_slips_35 : decode cX11_slips 35 = .ok (.aload_n 0, 1) := by decide +kernel
theorem dX11_slips_36 : decode cX11_slips 36 = .ok (.getfield 10, 3) := by decide +kernel
theorem dX11_slips_39 : decode cX11_slips 39 = .ok (.getfield 106, 3) := by decide +kernel
theorem dX11_slips_42 : decode cX11_slips 42 = .ok (.iload_n 1, 1) := by decide +kernel
theorem dX11_slips_43 : decode cX11_slips 43 = .ok (.iload_n 2, 1) := by decide +kernel
theorem dX11_slips_44 : decode cX11_slips 44 = .ok (.invokestatic 116, 3) := by decide +kernel
theorem dX11_slips_47 : decode cX11_slips 47 = .ok (.iload_n 3, 1) := by decide +kernel
theorem dX11_slips_48 : decode cX11_slips 48 = .ok (.ireturn, 1) := by decide +kernel
theorem dX11_work_0 : decode cX11_work 0 = .ok (.iload_n 2, 1) := by decide +kernel
theorem dX11_work_1 : decode cX11_work 1 = .ok (.iload_n 3, 1) := by decide +kernel
theorem dX11_work_2 : decode cX11_work 2 = .ok (.invokestatic 120, 3) := by decide +kernel
theorem dX11_work_5 : decode cX11_work 5 = .ok (.ifCond .eq 13, 3) := by decide +kernel
theorem dX11_work_8 : decode cX11_work 8 = .ok (.aload_n 0, 1) := by decide +kernel
theorem dX11_work_9 : decode cX11_work 9 = .ok (.iload_n 1, 1) := by decide +kernel
theorem dX11_work_10 : decode cX11_work 10 = .ok (.iload_n 2, 1) := by decide +kernel
theorem dX11_work_11 : decode cX11_work 11 = .ok (.iload_n 3, 1) := by decide +kernel
theorem dX11_work_12 : decode cX11_work 12 = .ok (.invokevirtual 124, 3) := by decide +kernel
theorem dX11_work_15 : decode cX11_work 15 = .ok (.goto 4, 3) := by decide +kernel
theorem dX11_work_18 : decode cX11_work 18 = .ok (.iconst (-1), 1) := by decide +kernel
theorem dX11_work_19 : decode cX11_work 19 = .ok (.ireturn, 1) := by decide +kernel
theorem dX11_column_0 : decode cX11_column 0 = .ok (.aload_n 0, 1) := by decide +kernel
theorem dX11_column_1 : decode cX11_column 1 = .ok (.getfield 10, 3) := by decide +kernel
theorem dX11_column_4 : decode cX11_column 4 = .ok (.iload_n 1, 1) := by decide +kernel
theorem dX11_column_5 : decode cX11_column 5 = .ok (.invokevirtual 128, 3) := by decide +kernel
theorem dX11_column_8 : decode cX11_column 8 = .ok (.ifCond .eq 30, 3) := by decide +kernel
theorem dX11_column_11 : decode cX11_column 11 = .ok (.iload_n 2, 1) := by decide +kernel
theorem dX11_column_12 : decode cX11_column 12 = .ok (.iload_n 3, 1) := by decide +kernel
theorem dX11_column_13 : decode cX11_column 13 = .ok (.invokestatic 120, 3) := by decide +kernel
theorem dX11_column_16 : decode cX11_column 16 = .ok (.ifCond .eq 22, 3) := by decide +kernel
theorem dX11_column_19 : decode cX11_column 19 = .ok (.iload 4, 2) := by decide +kernel
theorem dX11_column_21 : decode cX11_column 21 = .ok (.ifCond .lt 17, 3) := by decide +kernel
theorem dX11_column_24 : decode cX11_column 24 = .ok (.iload 4, 2) := by decide +kernel
theorem dX11_column_26 : decode cX11_column 26 = .ok (.iconst 4, 1) := by decide +kernel
theorem dX11_column_27 : decode cX11_column 27 = .ok (.if_icmp .ge 11, 3) := by decide +kernel
theorem dX11_column_30 : decode cX11_column 30 = .ok (.iload 5, 2) := by decide +kernel
theorem dX11_column_32 : decode cX11_column 32 = .ok (.invokestatic 131, 3) := by decide +kernel
theorem dX11_column_35 : decode cX11_column 35 = .ok (.ifCond .ne 5, 3) := by decide +kernel
theorem dX11_column_38 : decode cX11_column 38 = .ok (.iconst (-1), 1) := by decide +kernel
theorem dX11_column_39 : decode cX11_column 39 = .ok (.ireturn, 1) := by decide +kernel
theorem dX11_column_40 : decode cX11_column 40 = .ok (.aload_n 0, 1) := by decide +kernel
theorem dX11_column_41 : decode cX11_column 41 = .ok (.iload_n 1, 1) := by decide +kernel
theorem dX11_column_42 : decode cX11_column 42 = .ok (.iload_n 2, 1) := by decide +kernel
theorem dX11_column_43 : decode cX11_column 43 = .ok (.iload_n 3, 1) := by decide +kernel
theorem dX11_column_44 : decode cX11_column 44 = .ok (.invokevirtual 124, 3) := by decide +kernel
theorem dX11_column_47 : decode cX11_column 47 = .ok (.pop, 1) := by decide +kernel
theorem dX11_column_48 : decode cX11_column 48 = .ok (.iload 5, 2) := by decide +kernel
theorem dX11_column_50 : decode cX11_column 50 = .ok (.ifCond .ne 18, 3) := by decide +kernel
theorem dX11_column_53 : decode cX11_column 53 = .ok (.aload_n 0, 1) := by decide +kernel
theorem dX11_column_54 : decode cX11_column 54 = .ok (.getfield 31, 3) := by decide +kernel
theorem dX11_column_57 : decode cX11_column 57 = .ok (.getfield 134, 3) := by decide +kernel
theorem dX11_column_60 : decode cX11_column 60 = .ok (.iload 4, 2) := by decide +kernel
theorem dX11_column_62 : decode cX11_column 62 = .ok (.invokestatic 102, 3) := by decide +kernel
theorem dX11_column_65 : decode cX11_column 65 = .ok (.goto 15, 3) := by decide +kernel
theorem dX11_column_68 : decode cX11_column 68 = .ok (.aload_n 0, 1) := by decide +kernel
theorem dX11_column_69 : decode cX11_column 69 = .ok (.getfield 31, 3) := by decide +kernel
theorem dX11_column_72 : decode cX11_column 72 = .ok (.getfield 137, 3) := by decide +kernel
theorem dX11_column_75 : decode cX11_column 75 = .ok (.iload 4, 2) := by decide +kernel
theorem dX11_column_77 : decode cX11_column 77 = .ok (.ishr, 1) := by decide +kernel
theorem dX11_column_78 : decode cX11_column 78 = .ok (.iconst 1, 1) := by decide +kernel
theorem dX11_column_79 : decode cX11_column 79 = .ok (.iand, 1) := by decide +kernel
theorem dX11_column_80 : decode cX11_column 80 = .ok (.ireturn, 1) := by decide +kernel
theorem dX11_right_0 : decode cX11_right 0 = .ok (.iload_n 1, 1) := by decide +kernel
theorem dX11_right_1 : decode cX11_right 1 = .ok (.iload_n 2, 1) := by decide +kernel
theorem dX11_right_2 : decode cX11_right 2 = .ok (.invokestatic 120, 3) := by decide +kernel
theorem dX11_right_5 : decode cX11_right 5 = .ok (.ifCond .eq 15, 3) := by decide +kernel
theorem dX11_right_8 : decode cX11_right 8 = .ok (.aload_n 0, 1) := by decide +kernel
theorem dX11_right_9 : decode cX11_right 9 = .ok (.iload_n 1, 1) := by decide +kernel
theorem dX11_right_10 : decode cX11_right 10 = .ok (.iload_n 2, 1) := by decide +kernel
theorem dX11_right_11 : decode cX11_right 11 = .ok (.iload_n 1, 1) := by decide +kernel
theorem dX11_right_12 : decode cX11_right 12 = .ok (.iload_n 2, 1) := by decide +kernel
theorem dX11_right_13 : decode cX11_right 13 = .ok (.isub, 1) := by decide +kernel
theorem dX11_right_14 : decode cX11_right 14 = .ok (.invokevirtual 140, 3) := by decide +kernel
theorem dX11_right_17 : decode cX11_right 17 = .ok (.goto 4, 3) := by decide +kernel
theorem dX11_right_20 : decode cX11_right 20 = .ok (.iconst (-1), 1) := by decide +kernel
theorem dX11_right_21 : decode cX11_right 21 = .ok (.ireturn, 1) := by decide +kernel
theorem dX11_parts_0 : decode cX11_parts 0 = .ok (.iload_n 1, 1) := by decide +kernel
theorem dX11_parts_1 : decode cX11_parts 1 = .ok (.iload_n 2, 1) := by decide +kernel
theorem dX11_parts_2 : decode cX11_parts 2 = .ok (.invokestatic 120, 3) := by decide +kernel
theorem dX11_parts_5 : decode cX11_parts 5 = .ok (.ifCond .eq 24, 3) := by decide +kernel
theorem dX11_parts_8 : decode cX11_parts 8 = .ok (.aload_n 0, 1) := by decide +kernel
theorem dX11_parts_9 : decode cX11_parts 9 = .ok (.getfield 10, 3) := by decide +kernel
theorem dX11_parts_12 : decode cX11_parts 12 = .ok (.iload_n 3, 1) := by decide +kernel
theorem dX11_parts_13 : decode cX11_parts 13 = .ok (.invokevirtual 143, 3) := by decide +kernel
theorem dX11_parts_16 : decode cX11_parts 16 = .ok (.ifCond .eq 13, 3) := by decide +kernel
theorem dX11_parts_19 : decode cX11_parts 19 = .ok (.aload_n 0, 1) := by decide +kernel
theorem dX11_parts_20 : decode cX11_parts 20 = .ok (.iload_n 1, 1) := by decide +kernel
theorem dX11_parts_21 : decode cX11_parts 21 = .ok (.iload_n 2, 1) := by decide +kernel
theorem dX11_parts_22 : decode cX11_parts 22 = .ok (.iload_n 3, 1) := by decide +kernel
theorem dX11_parts_23 : decode cX11_parts 23 = .ok (.invokevirtual 146, 3) := by decide +kernel
theorem dX11_parts_26 : decode cX11_parts 26 = .ok (.goto 4, 3) := by decide +kernel
theorem dX11_parts_29 : decode cX11_parts 29 = .ok (.iconst (-1), 1) := by decide +kernel
theorem dX11_parts_30 : decode cX11_parts 30 = .ok (.ireturn, 1) := by decide +kernel
theorem dX11_whose_0 : decode cX11_whose 0 = .ok (.iload_n 1, 1) := by decide +kernel
theorem dX11_whose_1 : decode cX11_whose 1 = .ok (.iload_n 2, 1) := by decide +kernel
theorem dX11_whose_2 : decode cX11_whose 2 = .ok (.invokestatic 120, 3) := by decide +kernel
theorem dX11_whose_5 : decode cX11_whose 5 = .ok (.ifCond .eq 20, 3) := by decide +kernel
theorem dX11_whose_8 : decode cX11_whose 8 = .ok (.iload_n 3, 1) := by decide +kernel
theorem dX11_whose_9 : decode cX11_whose 9 = .ok (.invokestatic 149, 3) := by decide +kernel
theorem dX11_whose_12 : decode cX11_whose 12 = .ok (.ifCond .eq 13, 3) := by decide +kernel
theorem dX11_whose_15 : decode cX11_whose 15 = .ok (.aload_n 0, 1) := by decide +kernel
theorem dX11_whose_16 : decode cX11_whose 16 = .ok (.iload_n 1, 1) := by decide +kernel
theorem dX11_whose_17 : decode cX11_whose 17 = .ok (.iload_n 2, 1) := by decide +kernel
theorem dX11_whose_18 : decode cX11_whose 18 = .ok (.iload_n 3, 1) := by decide +kernel
theorem dX11_whose_19 : decode cX11_whose 19 = .ok (.invokevirtual 140, 3) := by decide +kernel
theorem dX11_whose_22 : decode cX11_whose 22 = .ok (.goto 4, 3) := by decide +kernel
theorem dX11_whose_25 : decode cX11_whose 25 = .ok (.iconst (-1), 1) := by decide +kernel
theorem dX11_whose_26 : decode cX11_whose 26 = .ok (.ireturn, 1) := by decide +kernel
theorem dX11_slip_0 : decode cX11_slip 0 = .ok (.aload_n 0, 1) := by decide +kernel
theorem dX11_slip_1 : decode cX11_slip 1 = .ok (.getfield 10, 3) := by decide +kernel
theorem dX11_slip_4 : decode cX11_slip 4 = .ok (.iload_n 1, 1) := by decide +kernel
theorem dX11_slip_5 : decode cX11_slip 5 = .ok (.invokevirtual 128, 3) := by decide +kernel
theorem dX11_slip_8 : decode cX11_slip 8 = .ok (.ifCond .ne 5, 3) := by decide +kernel
theorem dX11_slip_11 : decode cX11_slip 11 = .ok (.iconst (-1), 1) := by decide +kernel
theorem dX11_slip_12 : decode cX11_slip 12 = .ok (.ireturn, 1) := by decide +kernel
theorem dX11_slip_13 : decode cX11_slip 13 = .ok (.aload_n 0, 1) := by decide +kernel
theorem dX11_slip_14 : decode cX11_slip 14 = .ok (.iload_n 2, 1) := by decide +kernel
theorem dX11_slip_15 : decode cX11_slip 15 = .ok (.iload_n 3, 1) := by decide +kernel
theorem dX11_slip_16 : decode cX11_slip 16 = .ok (.invokevirtual 152, 3) := by decide +kernel
theorem dX11_slip_19 : decode cX11_slip 19 = .ok (.istore 4, 2) := by decide +kernel
theorem dX11_slip_21 : decode cX11_slip 21 = .ok (.iload 4, 2) := by decide +kernel
theorem dX11_slip_23 : decode cX11_slip 23 = .ok (.ifCond .eq 8, 3) := by decide +kernel
theorem dX11_slip_26 : decode cX11_slip 26 = .ok (.iload 4, 2) := by decide +kernel
theorem dX11_slip_28 : decode cX11_slip 28 = .ok (.goto 8, 3) := by decide +kernel
theorem dX11_slip_31 : decode cX11_slip 31 = .ok (.aload_n 0, 1) := by decide +kernel
theorem dX11_slip_32 : decode cX11_slip 32 = .ok (.iload_n 1, 1) := by decide +kernel
theorem dX11_slip_33 : decode cX11_slip 33 = .ok (.invokevirtual 155, 3) := by decide +kernel
theorem dX11_slip_36 : decode cX11_slip 36 = .ok (.ireturn, 1) := by decide +kernel
theorem dX11_fits_0 : decode cX11_fits 0 = .ok (.iload_n 3, 1) := by decide +kernel
theorem dX11_fits_1 : decode cX11_fits 1 = .ok (.ifCond .lt 9, 3) := by decide +kernel
theorem dX11_fits_4 : decode cX11_fits 4 = .ok (.iload_n 3, 1) := by decide +kernel
theorem dX11_fits_5 : decode cX11_fits 5 = .ok (.bipush 12, 2) := by decide +kernel
theorem dX11_fits_7 : decode cX11_fits 7 = .ok (.if_icmp .le 5, 3) := by decide +kernel
theorem dX11_fits_10 : decode cX11_fits 10 = .ok (.iconst (-1), 1) := by decide +kernel
theorem dX11_fits_11 : decode cX11_fits 11 = .ok (.ireturn, 1) := by decide +kernel
theorem dX11_fits_12 : decode cX11_fits 12 = .ok (.aload_n 0, 1) := by decide +kernel
theorem dX11_fits_13 : decode cX11_fits 13 = .ok (.iload_n 1, 1) := by decide +kernel
theorem dX11_fits_14 : decode cX11_fits 14 = .ok (.iload_n 2, 1) := by decide +kernel
theorem dX11_fits_15 : decode cX11_fits 15 = .ok (.invokevirtual 152, 3) := by decide +kernel
theorem dX11_fits_18 : decode cX11_fits 18 = .ok (.istore 4, 2) := by decide +kernel
theorem dX11_fits_20 : decode cX11_fits 20 = .ok (.iload 4, 2) := by decide +kernel
theorem dX11_fits_22 : decode cX11_fits 22 = .ok (.ifCond .eq 8, 3) := by decide +kernel
theorem dX11_fits_25 : decode cX11_fits 25 = .ok (.iload 4, 2) := by decide +kernel
theorem dX11_fits_27 : decode cX11_fits 27 = .ok (.goto 8, 3) := by decide +kernel
theorem dX11_fits_30 : decode cX11_fits 30 = .ok (.aload_n 0, 1) := by decide +kernel
theorem dX11_fits_31 : decode cX11_fits 31 = .ok (.iload_n 3, 1) := by decide +kernel
theorem dX11_fits_32 : decode cX11_fits 32 = .ok (.invokevirtual 158, 3) := by decide +kernel
theorem dX11_fits_35 : decode cX11_fits 35 = .ok (.ireturn, 1) := by decide +kernel
theorem dX11_likely_0 : decode cX11_likely 0 = .ok (.aload_n 0, 1) := by decide +kernel
theorem dX11_likely_1 : decode cX11_likely 1 = .ok (.iload_n 1, 1) := by decide +kernel
theorem dX11_likely_2 : decode cX11_likely 2 = .ok (.iload_n 2, 1) := by decide +kernel
theorem dX11_likely_3 : decode cX11_likely 3 = .ok (.invokevirtual 152, 3) := by decide +kernel
theorem dX11_likely_6 : decode cX11_likely 6 = .ok (.istore_n 3, 1) := by decide +kernel
theorem dX11_likely_7 : decode cX11_likely 7 = .ok (.iload_n 3, 1) := by decide +kernel
theorem dX11_likely_8 : decode cX11_likely 8 = .ok (.ifCond .eq 7, 3) := by decide +kernel
theorem dX11_likely_11 : decode cX11_likely 11 = .ok (.iload_n 3, 1) := by decide +kernel
theorem dX11_likely_12 : decode cX11_likely 12 = .ok (.goto 7, 3) := by decide +kernel
theorem dX11_likely_15 : decode cX11_likely 15 = .ok (.aload_n 0, 1) := by decide +kernel
theorem dX11_likely_16 : decode cX11_likely 16 = .ok (.invokevirtual 161, 3) := by decide +kernel
theorem dX11_likely_19 : decode cX11_likely 19 = .ok (.ireturn, 1) := by decide +kernel
theorem dX11_odds_0 : decode cX11_odds 0 = .ok (.aload_n 0, 1) := by decide +kernel
theorem dX11_odds_1 : decode cX11_odds 1 = .ok (.getfield 10, 3) := by decide +kernel
theorem dX11_odds_4 : decode cX11_odds 4 = .ok (.iload_n 1, 1) := by decide +kernel
theorem dX11_odds_5 : decode cX11_odds 5 = .ok (.invokevirtual 128, 3) := by decide +kernel
theorem dX11_odds_8 : decode cX11_odds 8 = .ok (.ifCond .eq 11, 3) := by decide +kernel
theorem dX11_odds_11 : decode cX11_odds 11 = .ok (.iload 4, 2) := by decide +kernel
theorem dX11_odds_13 : decode cX11_odds 13 = .ok (.invokestatic 131, 3) := by decide +kernel
theorem dX11_odds_16 : decode cX11_odds 16 = .ok (.ifCond .ne 5, 3) := by decide +kernel
theorem dX11_odds_19 : decode cX11_odds 19 = .ok (.iconst (-1), 1) := by decide +kernel
theorem dX11_odds_20 : decode cX11_odds 20 = .ok (.ireturn, 1) := by decide +kernel
theorem dX11_odds_21 : decode cX11_odds 21 = .ok (.aload_n 0, 1) := by decide +kernel
theorem dX11_odds_22 : decode cX11_odds 22 = .ok (.iload_n 2, 1) := by decide +kernel
theorem dX11_odds_23 : decode cX11_odds 23 = .ok (.iload_n 3, 1) := by decide +kernel
theorem dX11_odds_24 : decode cX11_odds 24 = .ok (.invokevirtual 152, 3) := by decide +kernel
theorem dX11_odds_27 : decode cX11_odds 27 = .ok (.istore 5, 2) := by decide +kernel
theorem dX11_odds_29 : decode cX11_odds 29 = .ok (.iload 5, 2) := by decide +kernel
theorem dX11_odds_31 : decode cX11_odds 31 = .ok (.ifCond .eq 6, 3) := by decide +kernel
theorem dX11_odds_34 : decode cX11_odds 34 = .ok (.iload 5, 2) := by decide +kernel
theorem dX11_odds_36 : decode cX11_odds 36 = .ok (.ireturn, 1) := by decide +kernel
theorem dX11_odds_37 : decode cX11_odds 37 = .ok (.iconst 0, 1) := by decide +kernel
theorem dX11_odds_38 : decode cX11_odds 38 = .ok (.istore 6, 2) := by decide +kernel
theorem dX11_odds_40 : decode cX11_odds 40 = .ok (.iconst 0, 1) := by decide +kernel
theorem dX11_odds_41 : decode cX11_odds 41 = .ok (.istore 7, 2) := by decide +kernel
theorem dX11_odds_43 : decode cX11_odds 43 = .ok (.iload 7, 2) := by decide +kernel
theorem dX11_odds_45 : decode cX11_odds 45 = .ok (.aload_n 0, 1) := by decide +kernel
theorem dX11_odds_46 : decode cX11_odds 46 = .ok (.getfield 10, 3) := by decide +kernel
theorem dX11_odds_49 : decode cX11_odds 49 = .ok (.getfield 164, 3) := by decide +kernel
theorem dX11_odds_52 : decode cX11_odds 52 = .ok (.if_icmp .ge 20, 3) := by decide +kernel
theorem dX11_odds_55 : decode cX11_odds 55 = .ok (.iload 6, 2) := by decide +kernel
theorem dX11_odds_57 : decode cX11_odds 57 = .ok (.aload_n 0, 1) := by decide +kernel
theorem dX11_odds_58 : decode cX11_odds 58 = .ok (.iload 7, 2) := by decide +kernel
theorem dX11_odds_60 : decode cX11_odds 60 = .ok (.invokevirtual 167, 3) := by decide +kernel
theorem dX11_odds_63 : decode cX11_odds 63 = .ok (.iadd, 1) := by decide +kernel
theorem dX11_odds_64 : decode cX11_odds 64 = .ok (.istore 6, 2) := by decide +kernel
theorem dX11_odds_66 : decode cX11_odds 66 = .ok (.iinc 7 1, 3) := by decide +kernel
theorem dX11_odds_69 : decode cX11_odds 69 = .ok (.goto (-26), 3) := by decide +kernel
theorem dX11_odds_72 : decode cX11_odds 72 = .ok (.aload_n 0, 1) := by decide +kernel
theorem dX11_odds_73 : decode cX11_odds 73 = .ok (.iload_n 1, 1) := by decide +kernel
theorem dX11_odds_74 : decode cX11_odds 74 = .ok (.invokevirtual 167, 3) := by decide +kernel
theorem dX11_odds_77 : decode cX11_odds 77 = .ok (.iload 6, 2) := by decide +kernel
theorem dX11_odds_79 : decode cX11_odds 79 = .ok (.iload 4, 2) := by decide +kernel
theorem dX11_odds_81 : decode cX11_odds 81 = .ok (.invokestatic 170, 3) := by decide +kernel
theorem dX11_odds_84 : decode cX11_odds 84 = .ok (.ireturn, 1) := by decide +kernel
theorem dX11_held_0 : decode cX11_held 0 = .ok (.iload_n 3, 1) := by decide +kernel
theorem dX11_held_1 : decode cX11_held 1 = .ok (.ifCond .lt 35, 3) := by decide +kernel
theorem dX11_held_4 : decode cX11_held 4 = .ok (.iload_n 3, 1) := by decide +kernel
theorem dX11_held_5 : decode cX11_held 5 = .ok (.sipush 10000, 3) := by decide +kernel
theorem dX11_held_8 : decode cX11_held 8 = .ok (.idiv, 1) := by decide +kernel
theorem dX11_held_9 : decode cX11_held 9 = .ok (.iload_n 3, 1) := by decide +kernel
theorem dX11_held_10 : decode cX11_held 10 = .ok (.sipush 10000, 3) := by decide +kernel
theorem dX11_held_13 : decode cX11_held 13 = .ok (.irem, 1) := by decide +kernel
theorem dX11_held_14 : decode cX11_held 14 = .ok (.invokestatic 120, 3) := by decide +kernel
theorem dX11_held_17 : decode cX11_held 17 = .ok (.ifCond .eq 19, 3) := by decide +kernel
theorem dX11_held_20 : decode cX11_held 20 = .ok (.iload 4, 2) := by decide +kernel
theorem dX11_held_22 : decode cX11_held 22 = .ok (.invokestatic 149, 3) := by decide +kernel
theorem dX11_held_25 : decode cX11_held 25 = .ok (.ifCond .eq 11, 3) := by decide +kernel
theorem dX11_held_28 : decode cX11_held 28 = .ok (.iload 5, 2) := by decide +kernel
theorem dX11_held_30 : decode cX11_held 30 = .ok (.invokestatic 131, 3) := by decide +kernel
theorem dX11_held_33 : decode cX11_held 33 = .ok (.ifCond .ne 5, 3) := by decide +kernel
theorem dX11_held_36 : decode cX11_held 36 = .ok (.iconst (-1), 1) := by decide +kernel
theorem dX11_held_37 : decode cX11_held 37 = .ok (.ireturn, 1) := by decide +kernel
theorem dX11_held_38 : decode cX11_held 38 = .ok (.aload_n 0, 1) := by decide +kernel
theorem dX11_held_39 : decode cX11_held 39 = .ok (.iload_n 1, 1) := by decide +kernel
theorem dX11_held_40 : decode cX11_held 40 = .ok (.iload_n 2, 1) := by decide +kernel
theorem dX11_held_41 : decode cX11_held 41 = .ok (.invokevirtual 152, 3) := by decide +kernel
theorem dX11_held_44 : decode cX11_held 44 = .ok (.istore 6, 2) := by decide +kernel
theorem dX11_held_46 : decode cX11_held 46 = .ok (.iload 6, 2) := by decide +kernel
theorem dX11_held_48 : decode cX11_held 48 = .ok (.ifCond .eq 6, 3) := by decide +kernel
theorem dX11_held_51 : decode cX11_held 51 = .ok (.iload 6, 2) := by decide +kernel
theorem dX11_held_53 : decode cX11_held 53 = .ok (.ireturn, 1) := by decide +kernel
theorem dX11_held_54 : decode cX11_held 54 = .ok (.aload_n 0, 1) := by decide +kernel
theorem dX11_held_55 : decode cX11_held 55 = .ok (.iconst 0, 1) := by decide +kernel
theorem dX11_held_56 : decode cX11_held 56 = .ok (.invokevirtual 158, 3) := by decide +kernel
theorem dX11_held_59 : decode cX11_held 59 = .ok (.istore 7, 2) := by decide +kernel
theorem dX11_held_61 : decode cX11_held 61 = .ok (.iload 7, 2) := by decide +kernel
theorem dX11_held_63 : decode cX11_held 63 = .ok (.ifCond .ne 6, 3) := by decide +kernel
theorem dX11_held_66 : decode cX11_held 66 = .ok (.bipush (-4), 2) := by decide +kernel
theorem dX11_held_68 : decode cX11_held 68 = .ok (.ireturn, 1) := by decide +kernel
theorem dX11_held_69 : decode cX11_held 69 = .ok (.aload_n 0, 1) := by decide +kernel
theorem dX11_held_70 : decode cX11_held 70 = .ok (.iload_n 3, 1) := by decide +kernel
theorem dX11_held_71 : decode cX11_held 71 = .ok (.sipush 10000, 3) := by decide +kernel
theorem dX11_held_74 : decode cX11_held 74 = .ok (.idiv, 1) := by decide +kernel
theorem dX11_held_75 : decode cX11_held 75 = .ok (.iload_n 3, 1) := by decide +kernel
theorem dX11_held_76 : decode cX11_held 76 = .ok (.sipush 10000, 3) := by decide +kernel
theorem dX11_held_79 : decode cX11_held 79 = .ok (.irem, 1) := by decide +kernel
theorem dX11_held_80 : decode cX11_held 80 = .ok (.iload 4, 2) := by decide +kernel
theorem dX11_held_82 : decode cX11_held 82 = .ok (.invokevirtual 140, 3) := by decide +kernel
theorem dX11_held_85 : decode cX11_held 85 = .ok (.istore 8, 2) := by decide +kernel
theorem dX11_held_87 : decode cX11_held 87 = .ok (.aload_n 0, 1) := by decide +kernel
theorem dX11_held_88 : decode cX11_held 88 = .ok (.iload 7, 2) := by decide +kernel
theorem dX11_held_90 : decode cX11_held 90 = .ok (.iload 8, 2) := by decide +kernel
theorem dX11_held_92 : decode cX11_held 92 = .ok (.iand, 1) := by decide +kernel
theorem dX11_held_93 : decode cX11_held 93 = .ok (.invokevirtual 173, 3) := by decide +kernel
theorem dX11_held_96 : decode cX11_held 96 = .ok (.aload_n 0, 1) := by decide +kernel
theorem dX11_held_97 : decode cX11_held 97 = .ok (.iload 7, 2) := by decide +kernel
theorem dX11_held_99 : decode cX11_held 99 = .ok (.invokevirtual 173, 3) := by decide +kernel
theorem dX11_held_102 : decode cX11_held 102 = .ok (.iload 5, 2) := by decide +kernel
theorem dX11_held_104 : decode cX11_held 104 = .ok (.invokestatic 170, 3) := by decide +kernel
theorem dX11_held_107 : decode cX11_held 107 = .ok (.ireturn, 1) := by decide +kernel
theorem dX11_most_0 : decode cX11_most 0 = .ok (.aload_n 0, 1) := by decide +kernel
theorem dX11_most_1 : decode cX11_most 1 = .ok (.getfield 10, 3) := by decide +kernel
theorem dX11_most_4 : decode cX11_most 4 = .ok (.iload_n 2, 1) := by decide +kernel
theorem dX11_most_5 : decode cX11_most 5 = .ok (.invokevirtual 143, 3) := by decide +kernel
theorem dX11_most_8 : decode cX11_most 8 = .ok (.ifCond .ne 5, 3) := by decide +kernel
theorem dX11_most_11 : decode cX11_most 11 = .ok (.iconst (-1), 1) := by decide +kernel
theorem dX11_most_12 : decode cX11_most 12 = .ok (.ireturn, 1) := by decide +kernel
theorem dX11_most_13 : decode cX11_most 13 = .ok (.aload_n 0, 1) := by decide +kernel
theorem dX11_most_14 : decode cX11_most 14 = .ok (.iload_n 1, 1) := by decide +kernel
theorem dX11_most_15 : decode cX11_most 15 = .ok (.invokevirtual 176, 3) := by decide +kernel
theorem dX11_most_18 : decode cX11_most 18 = .ok (.istore_n 3, 1) := by decide +kernel
theorem dX11_most_19 : decode cX11_most 19 = .ok (.iload_n 3, 1) := by decide +kernel
theorem dX11_most_20 : decode cX11_most 20 = .ok (.ifCond .eq 5, 3) := by decide +kernel
theorem dX11_most_23 : decode cX11_most 23 = .ok (.iload_n 3, 1) := by decide +kernel
theorem dX11_most_24 : decode cX11_most 24 = .ok (.ireturn, 1) := by decide +kernel
theorem dX11_most_25 : decode cX11_most 25 = .ok (.bipush (-4), 2) := by decide +kernel
theorem dX11_most_27 : decode cX11_most 27 = .ok (.istore 4, 2) := by decide +kernel
theorem dX11_most_29 : decode cX11_most 29 = .ok (.iconst (-1), 1) := by decide +kernel
theorem dX11_most_30 : decode cX11_most 30 = .ok (.istore 5, 2) := by decide +kernel
theorem dX11_most_32 : decode cX11_most 32 = .ok (.iconst 0, 1) := by decide +kernel
theorem dX11_most_33 : decode cX11_most 33 = .ok (.istore 6, 2) := by decide +kernel
theorem dX11_most_35 : decode cX11_most 35 = .ok (.iload 6, 2) := by decide +kernel
theorem dX11_most_37 : decode cX11_most 37 = .ok (.aload_n 0, 1) := by decide +kernel
theorem dX11_most_38 : decode cX11_most 38 = .ok (.getfield 179, 3) := by decide +kernel
theorem dX11_most_41 : decode cX11_most 41 = .ok (.if_icmp .ge 49, 3) := by decide +kernel
theorem dX11_most_44 : decode cX11_most 44 = .ok (.aload_n 0, 1) := by decide +kernel
theorem dX11_most_45 : decode cX11_most 45 = .ok (.aload_n 0, 1) := by decide +kernel
theorem dX11_most_46 : decode cX11_most 46 = .ok (.getfield 35, 3) := by decide +kernel
theorem dX11_most_49 : decode cX11_most 49 = .ok (.iload 6, 2) := by decide +kernel
theorem dX11_most_51 : decode cX11_most 51 = .ok (.invokestatic 102, 3) := by decide +kernel
theorem dX11_most_54 : decode cX11_most 54 = .ok (.aload_n 0, 1) := by decide +kernel
theorem dX11_most_55 : decode cX11_most 55 = .ok (.getfield 39, 3) := by decide +kernel
theorem dX11_most_58 : decode cX11_most 58 = .ok (.iload 6, 2) := by decide +kernel
theorem dX11_most_60 : decode cX11_most 60 = .ok (.invokestatic 102, 3) := by decide +kernel
theorem dX11_most_63 : decode cX11_most 63 = .ok (.iload_n 2, 1) := by decide +kernel
theorem dX11_most_64 : decode cX11_most 64 = .ok (.invokevirtual 146, 3) := by decide +kernel
theorem dX11_most_67 : decode cX11_most 67 = .ok (.istore 7, 2) := by decide +kernel
theorem dX11_most_69 : decode cX11_most 69 = .ok (.iload 7, 2) := by decide +kernel
theorem dX11_most_71 : decode cX11_most 71 = .ok (.iload 5, 2) := by decide +kernel
theorem dX11_most_73 : decode cX11_most 73 = .ok (.if_icmp .le 11, 3) := by decide +kernel
theorem dX11_most_76 : decode cX11_most 76 = .ok (.iload 7, 2) := by decide +kernel
theorem dX11_most_78 : decode cX11_most 78 = .ok (.istore 5, 2) := by decide +kernel
theorem dX11_most_80 : decode cX11_most 80 = .ok (.iload 6, 2) := by decide +kernel
theorem dX11_most_82 : decode cX11_most 82 = .ok (.istore 4, 2) := by decide +kernel
theorem dX11_most_84 : decode cX11_most 84 = .ok (.iinc 6 1, 3) := by decide +kernel
theorem dX11_most_87 : decode cX11_most 87 = .ok (.goto (-52), 3) := by decide +kernel
theorem dX11_most_90 : decode cX11_most 90 = .ok (.iload 4, 2) := by decide +kernel
theorem dX11_most_92 : decode cX11_most 92 = .ok (.ireturn, 1) := by decide +kernel
theorem dX11_apart_0 : decode cX11_apart 0 = .ok (.aload_n 0, 1) := by decide +kernel
theorem dX11_apart_1 : decode cX11_apart 1 = .ok (.getfield 10, 3) := by decide +kernel
theorem dX11_apart_4 : decode cX11_apart 4 = .ok (.iload_n 2, 1) := by decide +kernel
theorem dX11_apart_5 : decode cX11_apart 5 = .ok (.invokevirtual 143, 3) := by decide +kernel
theorem dX11_apart_8 : decode cX11_apart 8 = .ok (.ifCond .eq 10, 3) := by decide +kernel
theorem dX11_apart_11 : decode cX11_apart 11 = .ok (.iload_n 3, 1) := by decide +kernel
theorem dX11_apart_12 : decode cX11_apart 12 = .ok (.invokestatic 131, 3) := by decide +kernel
theorem dX11_apart_15 : decode cX11_apart 15 = .ok (.ifCond .ne 5, 3) := by decide +kernel
theorem dX11_apart_18 : decode cX11_apart 18 = .ok (.iconst (-1), 1) := by decide +kernel
theorem dX11_apart_19 : decode cX11_apart 19 = .ok (.ireturn, 1) := by decide +kernel
theorem dX11_apart_20 : decode cX11_apart 20 = .ok (.aload_n 0, 1) := by decide +kernel
theorem dX11_apart_21 : decode cX11_apart 21 = .ok (.iload_n 1, 1) := by decide +kernel
theorem dX11_apart_22 : decode cX11_apart 22 = .ok (.invokevirtual 176, 3) := by decide +kernel
theorem dX11_apart_25 : decode cX11_apart 25 = .ok (.istore 4, 2) := by decide +kernel
theorem dX11_apart_27 : decode cX11_apart 27 = .ok (.iload 4, 2) := by decide +kernel
theorem dX11_apart_29 : decode cX11_apart 29 = .ok (.ifCond .eq 6, 3) := by decide +kernel
theorem dX11_apart_32 : decode cX11_apart 32 = .ok (.iload 4, 2) := by decide +kernel
theorem dX11_apart_34 : decode cX11_apart 34 = .ok (.ireturn, 1) := by decide +kernel
theorem dX11_apart_35 : decode cX11_apart 35 = .ok (.aload_n 0, 1) := by decide +kernel
theorem dX11_apart_36 : decode cX11_apart 36 = .ok (.getfield 179, 3) := by decide +kernel
theorem dX11_apart_39 : decode cX11_apart 39 = .ok (.bipush 10, 2) := by decide +kernel
theorem dX11_apart_41 : decode cX11_apart 41 = .ok (.if_icmp .le 6, 3) := by decide +kernel
theorem dX11_apart_44 : decode cX11_apart 44 = .ok (.bipush (-13), 2) := by decide +kernel
theorem dX11_apart_46 : decode cX11_apart 46 = .ok (.ireturn, 1) := by decide +kernel
theorem dX11_apart_47 : decode cX11_apart 47 = .ok (.aload_n 0, 1) := by decide +kernel
theorem dX11_apart_48 : decode cX11_apart 48 = .ok (.aload_n 0, 1) := by decide +kernel
theorem dX11_apart_49 : decode cX11_apart 49 = .ok (.iload_n 2, 1) := by decide +kernel
theorem dX11_apart_50 : decode cX11_apart 50 = .ok (.invokevirtual 182, 3) := by decide +kernel
theorem dX11_apart_53 : decode cX11_apart 53 = .ok (.invokevirtual 186, 3) := by decide +kernel
theorem dX11_apart_56 : decode cX11_apart 56 = .ok (.istore 5, 2) := by decide +kernel
theorem dX11_apart_58 : decode cX11_apart 58 = .ok (.iload_n 3, 1) := by decide +kernel
theorem dX11_apart_59 : decode cX11_apart 59 = .ok (.ifCond .ne 11, 3) := by decide +kernel
theorem dX11_apart_62 : decode cX11_apart 62 = .ok (.iload 5, 2) := by decide +kernel
theorem dX11_apart_64 : decode cX11_apart 64 = .ok (.invokestatic 190, 3) := by decide +kernel
theorem dX11_apart_67 : decode cX11_apart 67 = .ok (.goto 5, 3) := by decide +kernel
theorem dX11_apart_70 : decode cX11_apart 70 = .ok (.iload 5, 2) := by decide +kernel
theorem dX11_apart_72 : decode cX11_apart 72 = .ok (.ireturn, 1) := by decide +kernel
theorem dX11_never_0 : decode cX11_never 0 = .ok (.aload_n 0, 1) := by decide +kernel
theorem dX11_never_1 : decode cX11_never 1 = .ok (.getfield 10, 3) := by decide +kernel
theorem dX11_never_4 : decode cX11_never 4 = .ok (.iload_n 2, 1) := by decide +kernel
theorem dX11_never_5 : decode cX11_never 5 = .ok (.invokevirtual 143, 3) := by decide +kernel
theorem dX11_never_8 : decode cX11_never 8 = .ok (.ifCond .ne 5, 3) := by decide +kernel
theorem dX11_never_11 : decode cX11_never 11 = .ok (.iconst (-1), 1) := by decide +kernel
theorem dX11_never_12 : decode cX11_never 12 = .ok (.ireturn, 1) := by decide +kernel
theorem dX11_never_13 : decode cX11_never 13 = .ok (.aload_n 0, 1) := by decide +kernel
theorem dX11_never_14 : decode cX11_never 14 = .ok (.iload_n 1, 1) := by decide +kernel
theorem dX11_never_15 : decode cX11_never 15 = .ok (.invokevirtual 176, 3) := by decide +kernel
theorem dX11_never_18 : decode cX11_never 18 = .ok (.istore_n 3, 1) := by decide +kernel
theorem dX11_never_19 : decode cX11_never 19 = .ok (.iload_n 3, 1) := by decide +kernel
theorem dX11_never_20 : decode cX11_never 20 = .ok (.ifCond .eq 5, 3) := by decide +kernel
theorem dX11_never_23 : decode cX11_never 23 = .ok (.iload_n 3, 1) := by decide +kernel
theorem dX11_never_24 : decode cX11_never 24 = .ok (.ireturn, 1) := by decide +kernel
theorem dX11_never_25 : decode cX11_never 25 = .ok (.iload_n 2, 1) := by decide +kernel
theorem dX11_never_26 : decode cX11_never 26 = .ok (.invokestatic 190, 3) := by decide +kernel
theorem dX11_never_29 : decode cX11_never 29 = .ok (.istore 4, 2) := by decide +kernel
theorem dX11_never_31 : decode cX11_never 31 = .ok (.iload 4, 2) := by decide +kernel
theorem dX11_never_33 : decode cX11_never 33 = .ok (.iload 4, 2) := by decide +kernel
theorem dX11_never_35 : decode cX11_never 35 = .ok (.iconst 1, 1) := by decide +kernel
theorem dX11_never_36 : decode cX11_never 36 = .ok (.isub, 1) := by decide +kernel
theorem dX11_never_37 : decode cX11_never 37 = .ok (.imul, 1) := by decide +kernel
theorem dX11_never_38 : decode cX11_never 38 = .ok (.iconst 2, 1) := by decide +kernel
theorem dX11_never_39 : decode cX11_never 39 = .ok (.idiv, 1) := by decide +kernel
theorem dX11_never_40 : decode cX11_never 40 = .ok (.aload_n 0, 1) := by decide +kernel
theorem dX11_never_41 : decode cX11_never 41 = .ok (.iload_n 2, 1) := by decide +kernel
theorem dX11_never_42 : decode cX11_never 42 = .ok (.invokevirtual 182, 3) := by decide +kernel
theorem dX11_never_45 : decode cX11_never 45 = .ok (.invokestatic 195, 3) := by decide +kernel
theorem dX11_never_48 : decode cX11_never 48 = .ok (.isub, 1) := by decide +kernel
theorem dX11_never_49 : decode cX11_never 49 = .ok (.ireturn, 1) := by decide +kernel
theorem dX11_luck_0 : decode cX11_luck 0 = .ok (.aload_n 0, 1) := by decide +kernel
theorem dX11_luck_1 : decode cX11_luck 1 = .ok (.getfield 10, 3) := by decide +kernel
theorem dX11_luck_4 : decode cX11_luck 4 = .ok (.iload_n 1, 1) := by decide +kernel
theorem dX11_luck_5 : decode cX11_luck 5 = .ok (.invokevirtual 128, 3) := by decide +kernel
theorem dX11_luck_8 : decode cX11_luck 8 = .ok (.ifCond .eq 10, 3) := by decide +kernel
theorem dX11_luck_11 : decode cX11_luck 11 = .ok (.iload_n 3, 1) := by decide +kernel
theorem dX11_luck_12 : decode cX11_luck 12 = .ok (.invokestatic 131, 3) := by decide +kernel
theorem dX11_luck_15 : decode cX11_luck 15 = .ok (.ifCond .ne 5, 3) := by decide +kernel
theorem dX11_luck_18 : decode cX11_luck 18 = .ok (.iconst (-1), 1) := by decide +kernel
theorem dX11_luck_19 : decode cX11_luck 19 = .ok (.ireturn, 1) := by decide +kernel
theorem dX11_luck_20 : decode cX11_luck 20 = .ok (.aload_n 0, 1) := by decide +kernel
theorem dX11_luck_21 : decode cX11_luck 21 = .ok (.iload_n 2, 1) := by decide +kernel
theorem dX11_luck_22 : decode cX11_luck 22 = .ok (.invokevirtual 176, 3) := by decide +kernel
theorem dX11_luck_25 : decode cX11_luck 25 = .ok (.istore 4, 2) := by decide +kernel
theorem dX11_luck_27 : decode cX11_luck 27 = .ok (.iload 4, 2) := by decide +kernel
theorem dX11_luck_29 : decode cX11_luck 29 = .ok (.ifCond .eq 8, 3) := by decide +kernel
theorem dX11_luck_32 : decode cX11_luck 32 = .ok (.iload 4, 2) := by decide +kernel
theorem dX11_luck_34 : decode cX11_luck 34 = .ok (.goto 17, 3) := by decide +kernel
theorem dX11_luck_37 : decode cX11_luck 37 = .ok (.aload_n 0, 1) := by decide +kernel
theorem dX11_luck_38 : decode cX11_luck 38 = .ok (.iload_n 1, 1) := by decide +kernel
theorem dX11_luck_39 : decode cX11_luck 39 = .ok (.iload_n 3, 1) := by decide +kernel
theorem dX11_luck_40 : decode cX11_luck 40 = .ok (.ifCond .ne 7, 3) := by decide +kernel
theorem dX11_luck_43 : decode cX11_luck 43 = .ok (.iconst 1, 1) := by decide +kernel
theorem dX11_luck_44 : decode cX11_luck 44 = .ok (.goto 4, 3) := by decide +kernel
theorem dX11_luck_47 : decode cX11_luck 47 = .ok (.iconst 0, 1) := by decide +kernel
theorem dX11_luck_48 : decode cX11_luck 48 = .ok (.invokevirtual 199, 3) := by decide +kernel
theorem dX11_luck_51 : decode cX11_luck 51 = .ok (.ireturn, 1) := by decide +kernel
theorem dX11_clash_0 : decode cX11_clash 0 = .ok (.aload_n 0, 1) := by decide +kernel
theorem dX11_clash_1 : decode cX11_clash 1 = .ok (.getfield 10, 3) := by decide +kernel
theorem dX11_clash_4 : decode cX11_clash 4 = .ok (.iload_n 1, 1) := by decide +kernel
theorem dX11_clash_5 : decode cX11_clash 5 = .ok (.invokevirtual 128, 3) := by decide +kernel
theorem dX11_clash_8 : decode cX11_clash 8 = .ok (.ifCond .ne 5, 3) := by decide +kernel
theorem dX11_clash_11 : decode cX11_clash 11 = .ok (.iconst (-1), 1) := by decide +kernel
theorem dX11_clash_12 : decode cX11_clash 12 = .ok (.ireturn, 1) := by decide +kernel
theorem dX11_clash_13 : decode cX11_clash 13 = .ok (.iconst 0, 1) := by decide +kernel
theorem dX11_clash_14 : decode cX11_clash 14 = .ok (.istore_n 2, 1) := by decide +kernel
theorem dX11_clash_15 : decode cX11_clash 15 = .ok (.iload_n 2, 1) := by decide +kernel
theorem dX11_clash_16 : decode cX11_clash 16 = .ok (.bipush 100, 2) := by decide +kernel
theorem dX11_clash_18 : decode cX11_clash 18 = .ok (.if_icmp .ge 40, 3) := by decide +kernel
theorem dX11_clash_21 : decode cX11_clash 21 = .ok (.iconst 0, 1) := by decide +kernel
theorem dX11_clash_22 : decode cX11_clash 22 = .ok (.istore_n 3, 1) := by decide +kernel
theorem dX11_clash_23 : decode cX11_clash 23 = .ok (.iload_n 3, 1) := by decide +kernel
theorem dX11_clash_24 : decode cX11_clash 24 = .ok (.iload_n 2, 1) := by decide +kernel
theorem dX11_clash_25 : decode cX11_clash 25 = .ok (.if_icmp .gt 27, 3) := by decide +kernel
theorem dX11_clash_28 : decode cX11_clash 28 = .ok (.aload_n 0, 1) := by decide +kernel
theorem dX11_clash_29 : decode cX11_clash 29 = .ok (.iload_n 1, 1) := by decide +kernel
theorem dX11_clash_30 : decode cX11_clash 30 = .ok (.iload_n 2, 1) := by decide +kernel
theorem dX11_clash_31 : decode cX11_clash 31 = .ok (.iload_n 3, 1) := by decide +kernel
theorem dX11_clash_32 : decode cX11_clash 32 = .ok (.invokevirtual 124, 3) := by decide +kernel
theorem dX11_clash_35 : decode cX11_clash 35 = .ok (.iload_n 2, 1) := by decide +kernel
theorem dX11_clash_36 : decode cX11_clash 36 = .ok (.if_icmp .le 10, 3) := by decide +kernel
theorem dX11_clash_39 : decode cX11_clash 39 = .ok (.bipush 100, 2) := by decide +kernel
theorem dX11_clash_41 : decode cX11_clash 41 = .ok (.iload_n 2, 1) := by decide +kernel
theorem dX11_clash_42 : decode cX11_clash 42 = .ok (.imul, 1) := by decide +kernel
theorem dX11_clash_43 : decode cX11_clash 43 = .ok (.iload_n 3, 1) := by decide +kernel
theorem dX11_clash_44 : decode cX11_clash 44 = .ok (.iadd, 1) := by decide +kernel
theorem dX11_clash_45 : decode cX11_clash 45 = .ok (.ireturn, 1) := by decide +kernel
theorem dX11_clash_46 : decode cX11_clash 46 = .ok (.iinc 3 1, 3) := by decide +kernel
theorem dX11_clash_49 : decode cX11_clash 49 = .ok (.goto (-26), 3) := by decide +kernel
theorem dX11_clash_52 : decode cX11_clash 52 = .ok (.iinc 2 1, 3) := by decide +kernel
theorem dX11_clash_55 : decode cX11_clash 55 = .ok (.goto (-40), 3) := by decide +kernel
theorem dX11_clash_58 : decode cX11_clash 58 = .ok (.bipush (-4), 2) := by decide +kernel
theorem dX11_clash_60 : decode cX11_clash 60 = .ok (.ireturn, 1) := by decide +kernel
theorem dX11_comes_0 : decode cX11_comes 0 = .ok (.aload_n 0, 1) := by decide +kernel
theorem dX11_comes_1 : decode cX11_comes 1 = .ok (.getfield 10, 3) := by decide +kernel
theorem dX11_comes_4 : decode cX11_comes 4 = .ok (.iload_n 1, 1) := by decide +kernel
theorem dX11_comes_5 : decode cX11_comes 5 = .ok (.invokevirtual 128, 3) := by decide +kernel
theorem dX11_comes_8 : decode cX11_comes 8 = .ok (.ifCond .eq 14, 3) := by decide +kernel
theorem dX11_comes_11 : decode cX11_comes 11 = .ok (.iload_n 2, 1) := by decide +kernel
theorem dX11_comes_12 : decode cX11_comes 12 = .ok (.iconst 1, 1) := by decide +kernel
theorem dX11_comes_13 : decode cX11_comes 13 = .ok (.if_icmp .lt 9, 3) := by decide +kernel
theorem dX11_comes_16 : decode cX11_comes 16 = .ok (.iload_n 2, 1) := by decide +kernel
theorem dX11_comes_17 : decode cX11_comes 17 = .ok (.bipush 40, 2) := by decide +kernel
theorem dX11_comes_19 : decode cX11_comes 19 = .ok (.if_icmp .le 5, 3) := by decide +kernel
theorem dX11_comes_22 : decode cX11_comes 22 = .ok (.iconst (-1), 1) := by decide +kernel
theorem dX11_comes_23 : decode cX11_comes 23 = .ok (.ireturn, 1) := by decide +kernel
theorem dX11_comes_24 : decode cX11_comes 24 = .ok (.iconst 0, 1) := by decide +kernel
theorem dX11_comes_25 : decode cX11_comes 25 = .ok (.istore_n 3, 1) := by decide +kernel
theorem dX11_comes_26 : decode cX11_comes 26 = .ok (.iconst 0, 1) := by decide +kernel
theorem dX11_comes_27 : decode cX11_comes 27 = .ok (.istore 4, 2) := by decide +kernel
theorem dX11_comes_29 : decode cX11_comes 29 = .ok (.iload 4, 2) := by decide +kernel
theorem dX11_comes_31 : decode cX11_comes 31 = .ok (.iload_n 2, 1) := by decide +kernel
theorem dX11_comes_32 : decode cX11_comes 32 = .ok (.if_icmp .ge 45, 3) := by decide +kernel
theorem dX11_comes_35 : decode cX11_comes 35 = .ok (.iconst 0, 1) := by decide +kernel
theorem dX11_comes_36 : decode cX11_comes 36 = .ok (.istore 5, 2) := by decide +kernel
theorem dX11_comes_38 : decode cX11_comes 38 = .ok (.iload 5, 2) := by decide +kernel
theorem dX11_comes_40 : decode cX11_comes 40 = .ok (.iload 4, 2) := by decide +kernel
theorem dX11_comes_42 : decode cX11_comes 42 = .ok (.if_icmp .gt 29, 3) := by decide +kernel
theorem dX11_comes_45 : decode cX11_comes 45 = .ok (.aload_n 0, 1) := by decide +kernel
theorem dX11_comes_46 : decode cX11_comes 46 = .ok (.iload_n 1, 1) := by decide +kernel
theorem dX11_comes_47 : decode cX11_comes 47 = .ok (.iload 4, 2) := by decide +kernel
theorem dX11_comes_49 : decode cX11_comes 49 = .ok (.iload 5, 2) := by decide +kernel
theorem dX11_comes_51 : decode cX11_comes 51 = .ok (.invokevirtual 124, 3) := by decide +kernel
theorem dX11_comes_54 : decode cX11_comes 54 = .ok (.iload 4, 2) := by decide +kernel
theorem dX11_comes_56 : decode cX11_comes 56 = .ok (.iload 5, 2) := by decide +kernel
theorem dX11_comes_58 : decode cX11_comes 58 = .ok (.isub, 1) := by decide +kernel
theorem dX11_comes_59 : decode cX11_comes 59 = .ok (.if_icmp .eq 6, 3) := by decide +kernel
theorem dX11_comes_62 : decode cX11_comes 62 = .ok (.iinc 3 1, 3) := by decide +kernel
theorem dX11_comes_65 : decode cX11_comes 65 = .ok (.iinc 5 1, 3) := by decide +kernel
theorem dX11_comes_68 : decode cX11_comes 68 = .ok (.goto (-30), 3) := by decide +kernel
theorem dX11_comes_71 : decode cX11_comes 71 = .ok (.iinc 4 1, 3) := by decide +kernel
theorem dX11_comes_74 : decode cX11_comes 74 = .ok (.goto (-45), 3) := by decide +kernel
theorem dX11_comes_77 : decode cX11_comes 77 = .ok (.iload_n 3, 1) := by decide +kernel
theorem dX11_comes_78 : decode cX11_comes 78 = .ok (.ireturn, 1) := by decide +kernel
theorem dX11_day_0 : decode cX11_day 0 = .ok (.aload_n 0, 1) := by decide +kernel
theorem dX11_day_1 : decode cX11_day 1 = .ok (.iload_n 3, 1) := by decide +kernel
theorem dX11_day_2 : decode cX11_day 2 = .ok (.invokevirtual 59, 3) := by decide +kernel
theorem dX11_day_5 : decode cX11_day 5 = .ok (.astore 5, 2) := by decide +kernel
theorem dX11_day_7 : decode cX11_day 7 = .ok (.aload_n 0, 1) := by decide +kernel
theorem dX11_day_8 : decode cX11_day 8 = .ok (.getfield 10, 3) := by decide +kernel
theorem dX11_day_11 : decode cX11_day 11 = .ok (.iload_n 1, 1) := by decide +kernel
theorem dX11_day_12 : decode cX11_day 12 = .ok (.invokevirtual 95, 3) := by decide +kernel
theorem dX11_day_15 : decode cX11_day 15 = .ok (.ifCond .eq 8, 3) := by decide +kernel
theorem dX11_day_18 : decode cX11_day 18 = .ok (.aload 5, 2) := by decide +kernel
theorem dX11_day_20 : decode cX11_day 20 = .ok (.ifnonnull 5, 3) := by decide +kernel
theorem dX11_day_23 : decode cX11_day 23 = .ok (.iconst (-1), 1) := by decide +kernel
theorem dX11_day_24 : decode cX11_day 24 = .ok (.ireturn, 1) := by decide +kernel
theorem dX11_day_25 : decode cX11_day 25 = .ok (.aload_n 0, 1) := by decide +kernel
theorem dX11_day_26 : decode cX11_day 26 = .ok (.iload_n 2, 1) := by decide +kernel
theorem dX11_day_27 : decode cX11_day 27 = .ok (.invokevirtual 176, 3) := by decide +kernel
theorem dX11_day_30 : decode cX11_day 30 = .ok (.istore 6, 2) := by decide +kernel
theorem dX11_day_32 : decode cX11_day 32 = .ok (.iload 6, 2) := by decide +kernel
theorem dX11_day_34 : decode cX11_day 34 = .ok (.ifCond .eq 6, 3) := by decide +kernel
theorem dX11_day_37 : decode cX11_day 37 = .ok (.iload 6, 2) := by decide +kernel
theorem dX11_day_39 : decode cX11_day 39 = .ok (.ireturn, 1) := by decide +kernel
theorem dX11_day_40 : decode cX11_day 40 = .ok (.aload_n 0, 1) := by decide +kernel
theorem dX11_day_41 : decode cX11_day 41 = .ok (.iload 4, 2) := by decide +kernel
theorem dX11_day_43 : decode cX11_day 43 = .ok (.putfield 203, 3) := by decide +kernel
theorem dX11_day_46 : decode cX11_day 46 = .ok (.iconst 0, 1) := by decide +kernel
theorem dX11_day_47 : decode cX11_day 47 = .ok (.istore 7, 2) := by decide +kernel
theorem dX11_day_49 : decode cX11_day 49 = .ok (.aload 5, 2) := by decide +kernel
theorem dX11_day_51 : decode cX11_day 51 = .ok (.iconst 2, 1) := by decide +kernel
theorem dX11_day_52 : decode cX11_day 52 = .ok (.aload_n 0, 1) := by decide +kernel
theorem dX11_day_53 : decode cX11_day 53 = .ok (.getfield 179, 3) := by decide +kernel
theorem dX11_day_56 : decode cX11_day 56 = .ok (.invokevirtual 206, 3) := by decide +kernel
theorem dX11_day_59 : decode cX11_day 59 = .ok (.iconst 0, 1) := by decide +kernel
theorem dX11_day_60 : decode cX11_day 60 = .ok (.istore 8, 2) := by decide +kernel
theorem dX11_day_62 : decode cX11_day 62 = .ok (.iload 8, 2) := by decide +kernel
theorem dX11_day_64 : decode cX11_day 64 = .ok (.aload_n 0, 1) := by decide +kernel
theorem dX11_day_65 : decode cX11_day 65 = .ok (.getfield 179, 3) := by decide +kernel
theorem dX11_day_68 : decode cX11_day 68 = .ok (.if_icmp .ge 68, 3) := by decide +kernel
theorem dX11_day_71 : decode cX11_day 71 = .ok (.aload_n 0, 1) := by decide +kernel
theorem dX11_day_72 : decode cX11_day 72 = .ok (.aload_n 0, 1) := by decide +kernel
theorem dX11_day_73 : decode cX11_day 73 = .ok (.getfield 10, 3) := by decide +kernel
theorem dX11_day_76 : decode cX11_day 76 = .ok (.getfield 99, 3) := by decide +kernel
theorem dX11_day_79 : decode cX11_day 79 = .ok (.iload_n 1, 1) := by decide +kernel
theorem dX11_day_80 : decode cX11_day 80 = .ok (.invokestatic 102, 3) := by decide +kernel
theorem dX11_day_83 : decode cX11_day 83 = .ok (.iload 8, 2) := by decide +kernel
theorem dX11_day_85 : decode cX11_day 85 = .ok (.invokevirtual 210, 3) := by decide +kernel
theorem dX11_day_88 : decode cX11_day 88 = .ok (.istore 9, 2) := by decide +kernel
theorem dX11_day_90 : decode cX11_day 90 = .ok (.aload_n 0, 1) := by decide +kernel
theorem dX11_day_91 : decode cX11_day 91 = .ok (.bipush 100, 2) := by decide +kernel
theorem dX11_day_93 : decode cX11_day 93 = .ok (.invokevirtual 213, 3) := by decide +kernel
theorem dX11_day_96 : decode cX11_day 96 = .ok (.aload_n 0, 1) := by decide +kernel
theorem dX11_day_97 : decode cX11_day 97 = .ok (.getfield 10, 3) := by decide +kernel
theorem dX11_day_100 : decode cX11_day 100 = .ok (.getfield 106, 3) := by decide +kernel
theorem dX11_day_103 : decode cX11_day 103 = .ok (.iload_n 1, 1) := by decide +kernel
theorem dX11_day_104 : decode cX11_day 104 = .ok (.invokestatic 102, 3) := by decide +kernel
theorem dX11_day_107 : decode cX11_day 107 = .ok (.if_icmp .ge 14, 3) := by decide +kernel
theorem dX11_day_110 : decode cX11_day 110 = .ok (.aload_n 0, 1) := by decide +kernel
theorem dX11_day_111 : decode cX11_day 111 = .ok (.iload 9, 2) := by decide +kernel
theorem dX11_day_113 : decode cX11_day 113 = .ok (.invokevirtual 216, 3) := by decide +kernel
theorem dX11_day_116 : decode cX11_day 116 = .ok (.istore 9, 2) := by decide +kernel
theorem dX11_day_118 : decode cX11_day 118 = .ok (.iinc 7 1, 3) := by decide +kernel
theorem dX11_day_121 : decode cX11_day 121 = .ok (.aload 5, 2) := by decide +kernel
theorem dX11_day_123 : decode cX11_day 123 = .ok (.iload 8, 2) := by decide +kernel
theorem dX11_day_125 : decode cX11_day 125 = .ok (.iload 9, 2) := by decide +kernel
theorem dX11_day_127 : decode cX11_day 127 = .ok (.invokevirtual 219, 3) := by decide +kernel
theorem dX11_day_130 : decode cX11_day 130 = .ok (.iinc 8 1, 3) := by decide +kernel
theorem dX11_day_133 : decode cX11_day 133 = .ok (.goto (-71), 3) := by decide +kernel
theorem dX11_day_136 : decode cX11_day 136 = .ok (.iload 7, 2) := by decide +kernel
theorem dX11_day_138 : decode cX11_day 138 = .ok (.ireturn, 1) := by decide +kernel
theorem dX11_say_0 : decode cX11_say 0 = .ok (.aload_n 0, 1) := by decide +kernel
theorem dX11_say_1 : decode cX11_say 1 = .ok (.getfield 10, 3) := by decide +kernel
theorem dX11_say_4 : decode cX11_say 4 = .ok (.iload_n 1, 1) := by decide +kernel
theorem dX11_say_5 : decode cX11_say 5 = .ok (.invokevirtual 95, 3) := by decide +kernel
theorem dX11_say_8 : decode cX11_say 8 = .ok (.ifCond .eq 13, 3) := by decide +kernel
theorem dX11_say_11 : decode cX11_say 11 = .ok (.iload_n 2, 1) := by decide +kernel
theorem dX11_say_12 : decode cX11_say 12 = .ok (.ifCond .lt 9, 3) := by decide +kernel
theorem dX11_say_15 : decode cX11_say 15 = .ok (.iload_n 2, 1) := by decide +kernel
theorem dX11_say_16 : decode cX11_say 16 = .ok (.bipush 10, 2) := by decide +kernel
theorem dX11_say_18 : decode cX11_say 18 = .ok (.if_icmp .lt 5, 3) := by decide +kernel
theorem dX11_say_21 : decode cX11_say 21 = .ok (.iconst (-1), 1) := by decide +kernel
theorem dX11_say_22 : decode cX11_say 22 = .ok (.ireturn, 1) := by decide +kernel
theorem dX11_say_23 : decode cX11_say 23 = .ok (.aload_n 0, 1) := by decide +kernel
theorem dX11_say_24 : decode cX11_say 24 = .ok (.getfield 10, 3) := by decide +kernel
theorem dX11_say_27 : decode cX11_say 27 = .ok (.iload_n 2, 1) := by decide +kernel
theorem dX11_say_28 : decode cX11_say 28 = .ok (.aload_n 0, 1) := by decide +kernel
theorem dX11_say_29 : decode cX11_say 29 = .ok (.getfield 10, 3) := by decide +kernel
theorem dX11_say_32 : decode cX11_say 32 = .ok (.getfield 99, 3) := by decide +kernel
theorem dX11_say_35 : decode cX11_say 35 = .ok (.iload_n 1, 1) := by decide +kernel
theorem dX11_say_36 : decode cX11_say 36 = .ok (.invokestatic 102, 3) := by decide +kernel
theorem dX11_say_39 : decode cX11_say 39 = .ok (.invokevirtual 112, 3) := by decide +kernel
theorem dX11_say_42 : decode cX11_say 42 = .ok (.istore_n 3, 1) := by decide +kernel
theorem dX11_say_43 : decode cX11_say 43 = .ok (.aload_n 0, 1) := by decide +kernel
theorem dX11_say_44 : decode cX11_say 44 = .ok (.getfield 10, 3) := by decide +kernel
theorem dX11_say_47 : decode cX11_say 47 = .ok (.getfield 99, 3) := by decide +kernel
theorem dX11_say_50 : decode cX11_say 50 = .ok (.iload_n 1, 1) := by decide +kernel
theorem dX11_say_51 : decode cX11_say 51 = .ok (.iload_n 3, 1) := by decide +kernel
theorem dX11_say_52 : decode cX11_say 52 = .ok (.invokestatic 116, 3) := by decide +kernel
theorem dX11_say_55 : decode cX11_say 55 = .ok (.iload_n 3, 1) := by decide +kernel
theorem dX11_say_56 : decode cX11_say 56 = .ok (.ireturn, 1) := by decide +kernel
theorem dX11_bestSaying_0 : decode cX11_bestSaying 0 = .ok (.aload_n 0, 1) := by decide +kernel
theorem dX11_bestSaying_1 : decode cX11_bestSaying 1 = .ok (.iload_n 1, 1) := by decide +kernel
theorem dX11_bestSaying_2 : decode cX11_bestSaying 2 = .ok (.invokevirtual 176, 3) := by decide +kernel
theorem dX11_bestSaying_5 : decode cX11_bestSaying 5 = .ok (.istore_n 2, 1) := by decide +kernel
theorem dX11_bestSaying_6 : decode cX11_bestSaying 6 = .ok (.iload_n 2, 1) := by decide +kernel
theorem dX11_bestSaying_7 : decode cX11_bestSaying 7 = .ok (.ifCond .eq 5, 3) := by decide +kernel
theorem dX11_bestSaying_10 : decode cX11_bestSaying 10 = .ok (.iload_n 2, 1) := by decide +kernel
theorem dX11_bestSaying_11 : decode cX11_bestSaying 11 = .ok (.ireturn, 1) := by decide +kernel
theorem dX11_bestSaying_12 : decode cX11_bestSaying 12 = .ok (.iconst 0, 1) := by decide +kernel
theorem dX11_bestSaying_13 : decode cX11_bestSaying 13 = .ok (.istore_n 3, 1) := by decide +kernel
theorem dX11_bestSaying_14 : decode cX11_bestSaying 14 = .ok (.iconst 0, 1) := by decide +kernel
theorem dX11_bestSaying_15 : decode cX11_bestSaying 15 = .ok (.istore 4, 2) := by decide +kernel
theorem dX11_bestSaying_17 : decode cX11_bestSaying 17 = .ok (.iload 4, 2) := by decide +kernel
theorem dX11_bestSaying_19 : decode cX11_bestSaying 19 = .ok (.aload_n 0, 1) := by decide +kernel
theorem dX11_bestSaying_20 : decode cX11_bestSaying 20 = .ok (.getfield 10, 3) := by decide +kernel
theorem dX11_bestSaying_23 : decode cX11_bestSaying 23 = .ok (.getfield 164, 3) := by decide +kernel
theorem dX11_bestSaying_26 : decode cX11_bestSaying 26 = .ok (.if_icmp .ge 25, 3) := by decide +kernel
theorem dX11_bestSaying_29 : decode cX11_bestSaying 29 = .ok (.aload_n 0, 1) := by decide +kernel
theorem dX11_bestSaying_30 : decode cX11_bestSaying 30 = .ok (.getfield 48, 3) := by decide +kernel
theorem dX11_bestSaying_33 : decode cX11_bestSaying 33 = .ok (.iload 4, 2) := by decide +kernel
theorem dX11_bestSaying_35 : decode cX11_bestSaying 35 = .ok (.aload_n 0, 1) := by decide +kernel
theorem dX11_bestSaying_36 : decode cX11_bestSaying 36 = .ok (.iload 4, 2) := by decide +kernel
theorem dX11_bestSaying_38 : decode cX11_bestSaying 38 = .ok (.iconst 0, 1) := by decide +kernel
theorem dX11_bestSaying_39 : decode cX11_bestSaying 39 = .ok (.invokevirtual 199, 3) := by decide +kernel
theorem dX11_bestSaying_42 : decode cX11_bestSaying 42 = .ok (.invokestatic 116, 3) := by decide +kernel
theorem dX11_bestSaying_45 : decode cX11_bestSaying 45 = .ok (.iinc 4 1, 3) := by decide +kernel
theorem dX11_bestSaying_48 : decode cX11_bestSaying 48 = .ok (.goto (-31), 3) := by decide +kernel
theorem dX11_bestSaying_51 : decode cX11_bestSaying 51 = .ok (.iconst 0, 1) := by decide +kernel
theorem dX11_bestSaying_52 : decode cX11_bestSaying 52 = .ok (.istore 4, 2) := by decide +kernel
theorem dX11_bestSaying_54 : decode cX11_bestSaying 54 = .ok (.iload 4, 2) := by decide +kernel
theorem dX11_bestSaying_56 : decode cX11_bestSaying 56 = .ok (.aload_n 0, 1) := by decide +kernel
theorem dX11_bestSaying_57 : decode cX11_bestSaying 57 = .ok (.getfield 10, 3) := by decide +kernel
theorem dX11_bestSaying_60 : decode cX11_bestSaying 60 = .ok (.getfield 222, 3) := by decide +kernel
theorem dX11_bestSaying_63 : decode cX11_bestSaying 63 = .ok (.if_icmp .ge 31, 3) := by decide +kernel
theorem dX11_bestSaying_66 : decode cX11_bestSaying 66 = .ok (.iload_n 3, 1) := by decide +kernel
theorem dX11_bestSaying_67 : decode cX11_bestSaying 67 = .ok (.aload_n 0, 1) := by decide +kernel
theorem dX11_bestSaying_68 : decode cX11_bestSaying 68 = .ok (.getfield 48, 3) := by decide +kernel
theorem dX11_bestSaying_71 : decode cX11_bestSaying 71 = .ok (.aload_n 0, 1) := by decide +kernel
theorem dX11_bestSaying_72 : decode cX11_bestSaying 72 = .ok (.getfield 10, 3) := by decide +kernel
theorem dX11_bestSaying_75 : decode cX11_bestSaying 75 = .ok (.getfield 99, 3) := by decide +kernel
theorem dX11_bestSaying_78 : decode cX11_bestSaying 78 = .ok (.iload 4, 2) := by decide +kernel
theorem dX11_bestSaying_80 : decode cX11_bestSaying 80 = .ok (.invokestatic 102, 3) := by decide +kernel
theorem dX11_bestSaying_83 : decode cX11_bestSaying 83 = .ok (.invokestatic 102, 3) := by decide +kernel
theorem dX11_bestSaying_86 : decode cX11_bestSaying 86 = .ok (.iadd, 1) := by decide +kernel
theorem dX11_bestSaying_87 : decode cX11_bestSaying 87 = .ok (.istore_n 3, 1) := by decide +kernel
theorem dX11_bestSaying_88 : decode cX11_bestSaying 88 = .ok (.iinc 4 1, 3) := by decide +kernel
theorem dX11_bestSaying_91 : decode cX11_bestSaying 91 = .ok (.goto (-37), 3) := by decide +kernel
theorem dX11_bestSaying_94 : decode cX11_bestSaying 94 = .ok (.bipush (-4), 2) := by decide +kernel
theorem dX11_bestSaying_96 : decode cX11_bestSaying 96 = .ok (.istore 4, 2) := by decide +kernel
theorem dX11_bestSaying_98 : decode cX11_bestSaying 98 = .ok (.iconst 0, 1) := by decide +kernel
theorem dX11_bestSaying_99 : decode cX11_bestSaying 99 = .ok (.istore 5, 2) := by decide +kernel
theorem dX11_bestSaying_101 : decode cX11_bestSaying 101 = .ok (.iload 5, 2) := by decide +kernel
theorem dX11_bestSaying_103 : decode cX11_bestSaying 103 = .ok (.bipush 10, 2) := by decide +kernel
theorem dX11_bestSaying_105 : decode cX11_bestSaying 105 = .ok (.if_icmp .ge 79, 3) := by decide +kernel
theorem dX11_bestSaying_108 : decode cX11_bestSaying 108 = .ok (.iconst 0, 1) := by decide +kernel
theorem dX11_bestSaying_109 : decode cX11_bestSaying 109 = .ok (.istore 6, 2) := by decide +kernel
theorem dX11_bestSaying_111 : decode cX11_bestSaying 111 = .ok (.iconst 0, 1) := by decide +kernel
theorem dX11_bestSaying_112 : decode cX11_bestSaying 112 = .ok (.istore 7, 2) := by decide +kernel
theorem dX11_bestSaying_114 : decode cX11_bestSaying 114 = .ok (.iload 7, 2) := by decide +kernel
theorem dX11_bestSaying_116 : decode cX11_bestSaying 116 = .ok (.aload_n 0, 1) := by decide +kernel
theorem dX11_bestSaying_117 : decode cX11_bestSaying 117 = .ok (.getfield 10, 3) := by decide +kernel
theorem dX11_bestSaying_120 : decode cX11_bestSaying 120 = .ok (.getfield 222, 3) := by decide +kernel
theorem dX11_bestSaying_123 : decode cX11_bestSaying 123 = .ok (.if_icmp .ge 42, 3) := by decide +kernel
theorem dX11_bestSaying_126 : decode cX11_bestSaying 126 = .ok (.iload 6, 2) := by decide +kernel
theorem dX11_bestSaying_128 : decode cX11_bestSaying 128 = .ok (.aload_n 0, 1) := by decide +kernel
theorem dX11_bestSaying_129 : decode cX11_bestSaying 129 = .ok (.getfield 48, 3) := by decide +kernel
theorem dX11_bestSaying_132 : decode cX11_bestSaying 132 = .ok (.aload_n 0, 1) := by decide +kernel
theorem dX11_bestSaying_133 : decode cX11_bestSaying 133 = .ok (.getfield 10, 3) := by decide +kernel
theorem dX11_bestSaying_136 : decode cX11_bestSaying 136 = .ok (.iload 5, 2) := by decide +kernel
theorem dX11_bestSaying_138 : decode cX11_bestSaying 138 = .ok (.aload_n 0, 1) := by decide +kernel
theorem dX11_bestSaying_139 : decode cX11_bestSaying 139 = .ok (.getfield 10, 3) := by decide +kernel
theorem dX11_bestSaying_142 : decode cX11_bestSaying 142 = .ok (.getfield 99, 3) := by decide +kernel
theorem dX11_bestSaying_145 : decode cX11_bestSaying 145 = .ok (.iload 7, 2) := by decide +kernel
theorem dX11_bestSaying_147 : decode cX11_bestSaying 147 = .ok (.invokestatic 102, 3) := by decide +kernel
theorem dX11_bestSaying_150 : decode cX11_bestSaying 150 = .ok (.invokevirtual 112, 3) := by decide +kernel
theorem dX11_bestSaying_153 : decode cX11_bestSaying 153 = .ok (.invokestatic 102, 3) := by decide +kernel
theorem dX11_bestSaying_156 : decode cX11_bestSaying 156 = .ok (.iadd, 1) := by decide +kernel
theorem dX11_bestSaying_157 : decode cX11_bestSaying 157 = .ok (.istore 6, 2) := by decide +kernel
theorem dX11_bestSaying_159 : decode cX11_bestSaying 159 = .ok (.iinc 7 1, 3) := by decide +kernel
theorem dX11_bestSaying_162 : decode cX11_bestSaying 162 = .ok (.goto (-48), 3) := by decide +kernel
theorem dX11_bestSaying_165 : decode cX11_bestSaying 165 = .ok (.iload 6, 2) := by decide +kernel
theorem dX11_bestSaying_167 : decode cX11_bestSaying 167 = .ok (.iload_n 3, 1) := by decide +kernel
theorem dX11_bestSaying_168 : decode cX11_bestSaying 168 = .ok (.if_icmp .le 10, 3) := by decide +kernel
theorem dX11_bestSaying_171 : decode cX11_bestSaying 171 = .ok (.iload 6, 2) := by decide +kernel
theorem dX11_bestSaying_173 : decode cX11_bestSaying 173 = .ok (.istore_n 3, 1) := by decide +kernel
theorem dX11_bestSaying_174 : decode cX11_bestSaying 174 = .ok (.iload 5, 2) := by decide +kernel
theorem dX11_bestSaying_176 : decode cX11_bestSaying 176 = .ok (.istore 4, 2) := by decide +kernel
theorem dX11_bestSaying_178 : decode cX11_bestSaying 178 = .ok (.iinc 5 1, 3) := by decide +kernel
theorem dX11_bestSaying_181 : decode cX11_bestSaying 181 = .ok (.goto (-80), 3) := by decide +kernel
theorem dX11_bestSaying_184 : decode cX11_bestSaying 184 = .ok (.iload 4, 2) := by decide +kernel
theorem dX11_bestSaying_186 : decode cX11_bestSaying 186 = .ok (.ireturn, 1) := by decide +kernel
theorem dX11_weeks_0 : decode cX11_weeks 0 = .ok (.iload_n 1, 1) := by decide +kernel
theorem dX11_weeks_1 : decode cX11_weeks 1 = .ok (.iconst 1, 1) := by decide +kernel
theorem dX11_weeks_2 : decode cX11_weeks 2 = .ok (.if_icmp .lt 29, 3) := by decide +kernel
theorem dX11_weeks_5 : decode cX11_weeks 5 = .ok (.iload_n 1, 1) := by decide +kernel
theorem dX11_weeks_6 : decode cX11_weeks 6 = .ok (.bipush 20, 2) := by decide +kernel
theorem dX11_weeks_8 : decode cX11_weeks 8 = .ok (.if_icmp .gt 23, 3) := by decide +kernel
theorem dX11_weeks_11 : decode cX11_weeks 11 = .ok (.iload_n 2, 1) := by decide +kernel
theorem dX11_weeks_12 : decode cX11_weeks 12 = .ok (.ifCond .lt 19, 3) := by decide +kernel
theorem dX11_weeks_15 : decode cX11_weeks 15 = .ok (.iload_n 2, 1) := by decide +kernel
theorem dX11_weeks_16 : decode cX11_weeks 16 = .ok (.bipush 100, 2) := by decide +kernel
theorem dX11_weeks_18 : decode cX11_weeks 18 = .ok (.if_icmp .gt 13, 3) := by decide +kernel
theorem dX11_weeks_21 : decode cX11_weeks 21 = .ok (.iload_n 3, 1) := by decide +kernel
theorem dX11_weeks_22 : decode cX11_weeks 22 = .ok (.ifCond .lt 9, 3) := by decide +kernel
theorem dX11_weeks_25 : decode cX11_weeks 25 = .ok (.iload_n 3, 1) := by decide +kernel
theorem dX11_weeks_26 : decode cX11_weeks 26 = .ok (.bipush 100, 2) := by decide +kernel
theorem dX11_weeks_28 : decode cX11_weeks 28 = .ok (.if_icmp .le 5, 3) := by decide +kernel
theorem dX11_weeks_31 : decode cX11_weeks 31 = .ok (.iconst (-1), 1) := by decide +kernel
theorem dX11_weeks_32 : decode cX11_weeks 32 = .ok (.ireturn, 1) := by decide +kernel
theorem dX11_weeks_33 : decode cX11_weeks 33 = .ok (.aload_n 0, 1) := by decide +kernel
theorem dX11_weeks_34 : decode cX11_weeks 34 = .ok (.getfield 10, 3) := by decide +kernel
theorem dX11_weeks_37 : decode cX11_weeks 37 = .ok (.getfield 222, 3) := by decide +kernel
theorem dX11_weeks_40 : decode cX11_weeks 40 = .ok (.ifCond .ne 6, 3) := by decide +kernel
theorem dX11_weeks_43 : decode cX11_weeks 43 = .ok (.bipush (-3), 2) := by decide +kernel
theorem dX11_weeks_45 : decode cX11_weeks 45 = .ok (.ireturn, 1) := by decide +kernel
theorem dX11_weeks_46 : decode cX11_weeks 46 = .ok (.aload_n 0, 1) := by decide +kernel
theorem dX11_weeks_47 : decode cX11_weeks 47 = .ok (.iload 4, 2) := by decide +kernel
theorem dX11_weeks_49 : decode cX11_weeks 49 = .ok (.putfield 203, 3) := by decide +kernel
theorem dX11_weeks_52 : decode cX11_weeks 52 = .ok (.iconst 0, 1) := by decide +kernel
theorem dX11_weeks_53 : decode cX11_weeks 53 = .ok (.istore 5, 2) := by decide +kernel
theorem dX11_weeks_55 : decode cX11_weeks 55 = .ok (.iload 5, 2) := by decide +kernel
theorem dX11_weeks_57 : decode cX11_weeks 57 = .ok (.aload_n 0, 1) := by decide +kernel
theorem dX11_weeks_58 : decode cX11_weeks 58 = .ok (.getfield 10, 3) := by decide +kernel
theorem dX11_weeks_61 : decode cX11_weeks 61 = .ok (.getfield 222, 3) := by decide +kernel
theorem dX11_weeks_64 : decode cX11_weeks 64 = .ok (.if_icmp .ge 30, 3) := by decide +kernel
theorem dX11_weeks_67 : decode cX11_weeks 67 = .ok (.aload_n 0, 1) := by decide +kernel
theorem dX11_weeks_68 : decode cX11_weeks 68 = .ok (.getfield 55, 3) := by decide +kernel
theorem dX11_weeks_71 : decode cX11_weeks 71 = .ok (.iload 5, 2) := by decide +kernel
theorem dX11_weeks_73 : decode cX11_weeks 73 = .ok (.aload_n 0, 1) := by decide +kernel
theorem dX11_weeks_74 : decode cX11_weeks 74 = .ok (.getfield 10, 3) := by decide +kernel
theorem dX11_weeks_77 : decode cX11_weeks 77 = .ok (.getfield 99, 3) := by decide +kernel
theorem dX11_weeks_80 : decode cX11_weeks 80 = .ok (.iload 5, 2) := by decide +kernel
theorem dX11_weeks_82 : decode cX11_weeks 82 = .ok (.invokestatic 102, 3) := by decide +kernel
theorem dX11_weeks_85 : decode cX11_weeks 85 = .ok (.invokestatic 116, 3) := by decide +kernel
theorem dX11_weeks_88 : decode cX11_weeks 88 = .ok (.iinc 5 1, 3) := by decide +kernel
theorem dX11_weeks_91 : decode cX11_weeks 91 = .ok (.goto (-36), 3) := by decide +kernel
theorem dX11_weeks_94 : decode cX11_weeks 94 = .ok (.iconst 0, 1) := by decide +kernel
theorem dX11_weeks_95 : decode cX11_weeks 95 = .ok (.istore 5, 2) := by decide +kernel
theorem dX11_weeks_97 : decode cX11_weeks 97 = .ok (.iload 5, 2) := by decide +kernel
theorem dX11_weeks_99 : decode cX11_weeks 99 = .ok (.iload_n 1, 1) := by decide +kernel
theorem dX11_weeks_100 : decode cX11_weeks 100 = .ok (.if_icmp .ge 15, 3) := by decide +kernel
theorem dX11_weeks_103 : decode cX11_weeks 103 = .ok (.aload_n 0, 1) := by decide +kernel
theorem dX11_weeks_104 : decode cX11_weeks 104 = .ok (.iload_n 2, 1) := by decide +kernel
theorem dX11_weeks_105 : decode cX11_weeks 105 = .ok (.iload_n 3, 1) := by decide +kernel
theorem dX11_weeks_106 : decode cX11_weeks 106 = .ok (.invokevirtual 225, 3) := by decide +kernel
theorem dX11_weeks_109 : decode cX11_weeks 109 = .ok (.iinc 5 1, 3) := by decide +kernel
theorem dX11_weeks_112 : decode cX11_weeks 112 = .ok (.goto (-15), 3) := by decide +kernel
theorem dX11_weeks_115 : decode cX11_weeks 115 = .ok (.iconst 0, 1) := by decide +kernel
theorem dX11_weeks_116 : decode cX11_weeks 116 = .ok (.istore 5, 2) := by decide +kernel
theorem dX11_weeks_118 : decode cX11_weeks 118 = .ok (.iconst 0, 1) := by decide +kernel
theorem dX11_weeks_119 : decode cX11_weeks 119 = .ok (.istore 6, 2) := by decide +kernel
theorem dX11_weeks_121 : decode cX11_weeks 121 = .ok (.iload 6, 2) := by decide +kernel
theorem dX11_weeks_123 : decode cX11_weeks 123 = .ok (.aload_n 0, 1) := by decide +kernel
theorem dX11_weeks_124 : decode cX11_weeks 124 = .ok (.getfield 10, 3) := by decide +kernel
theorem dX11_weeks_127 : decode cX11_weeks 127 = .ok (.getfield 222, 3) := by decide +kernel
theorem dX11_weeks_130 : decode cX11_weeks 130 = .ok (.if_icmp .ge 31, 3) := by decide +kernel
theorem dX11_weeks_133 : decode cX11_weeks 133 = .ok (.aload_n 0, 1) := by decide +kernel
theorem dX11_weeks_134 : decode cX11_weeks 134 = .ok (.getfield 10, 3) := by decide +kernel
theorem dX11_weeks_137 : decode cX11_weeks 137 = .ok (.aload_n 0, 1) := by decide +kernel
theorem dX11_weeks_138 : decode cX11_weeks 138 = .ok (.getfield 55, 3) := by decide +kernel
theorem dX11_weeks_141 : decode cX11_weeks 141 = .ok (.iload 6, 2) := by decide +kernel
theorem dX11_weeks_143 : decode cX11_weeks 143 = .ok (.invokestatic 102, 3) := by decide +kernel
theorem dX11_weeks_146 : decode cX11_weeks 146 = .ok (.invokevirtual 228, 3) := by decide +kernel
theorem dX11_weeks_149 : decode cX11_weeks 149 = .ok (.ifCond .ne 6, 3) := by decide +kernel
theorem dX11_weeks_152 : decode cX11_weeks 152 = .ok (.iinc 5 1, 3) := by decide +kernel
theorem dX11_weeks_155 : decode cX11_weeks 155 = .ok (.iinc 6 1, 3) := by decide +kernel
theorem dX11_weeks_158 : decode cX11_weeks 158 = .ok (.goto (-37), 3) := by decide +kernel
theorem dX11_weeks_161 : decode cX11_weeks 161 = .ok (.iload 5, 2) := by decide +kernel
theorem dX11_weeks_163 : decode cX11_weeks 163 = .ok (.ireturn, 1) := by decide +kernel
theorem dX11_groups_0 : decode cX11_groups 0 = .ok (.iload_n 1, 1) := by decide +kernel
theorem dX11_groups_1 : decode cX11_groups 1 = .ok (.ifCond .lt 9, 3) := by decide +kernel
theorem dX11_groups_4 : decode cX11_groups 4 = .ok (.iload_n 1, 1) := by decide +kernel
theorem dX11_groups_5 : decode cX11_groups 5 = .ok (.bipush 8, 2) := by decide +kernel
theorem dX11_groups_7 : decode cX11_groups 7 = .ok (.if_icmp .lt 7, 3) := by decide +kernel
theorem dX11_groups_10 : decode cX11_groups 10 = .ok (.iconst (-1), 1) := by decide +kernel
theorem dX11_groups_11 : decode cX11_groups 11 = .ok (.goto 8, 3) := by decide +kernel
theorem dX11_groups_14 : decode cX11_groups 14 = .ok (.aload_n 0, 1) := by decide +kernel
theorem dX11_groups_15 : decode cX11_groups 15 = .ok (.iload_n 1, 1) := by decide +kernel
theorem dX11_groups_16 : decode cX11_groups 16 = .ok (.invokevirtual 231, 3) := by decide +kernel
theorem dX11_groups_19 : decode cX11_groups 19 = .ok (.ireturn, 1) := by decide +kernel
theorem dX11_greatest_0 : decode cX11_greatest 0 = .ok (.aload_n 0, 1) := by decide +kernel
theorem dX11_greatest_1 : decode cX11_greatest 1 = .ok (.iconst 0, 1) := by decide +kernel
theorem dX11_greatest_2 : decode cX11_greatest 2 = .ok (.invokevirtual 234, 3) := by decide +kernel
theorem dX11_greatest_5 : decode cX11_greatest 5 = .ok (.ireturn, 1) := by decide +kernel
theorem dX11_lesson_0 : decode cX11_lesson 0 = .ok (.iload_n 1, 1) := by decide +kernel
theorem dX11_lesson_1 : decode cX11_lesson 1 = .ok (.iconst 1, 1) := by decide +kernel
theorem dX11_lesson_2 : decode cX11_lesson 2 = .ok (.if_icmp .lt 8, 3) := by decide +kernel
theorem dX11_lesson_5 : decode cX11_lesson 5 = .ok (.iload_n 1, 1) := by decide +kernel
theorem dX11_lesson_6 : decode cX11_lesson 6 = .ok (.iconst 3, 1) := by decide +kernel
theorem dX11_lesson_7 : decode cX11_lesson 7 = .ok (.if_icmp .le 5, 3) := by decide +kernel
theorem dX11_lesson_10 : decode cX11_lesson 10 = .ok (.iconst (-1), 1) := by decide +kernel
theorem dX11_lesson_11 : decode cX11_lesson 11 = .ok (.ireturn, 1) := by decide +kernel
theorem dX11_lesson_12 : decode cX11_lesson 12 = .ok (.iconst 0, 1) := by decide +kernel
theorem dX11_lesson_13 : decode cX11_lesson 13 = .ok (.istore_n 2, 1) := by decide +kernel
theorem dX11_lesson_14 : decode cX11_lesson 14 = .ok (.iconst 0, 1) := by decide +kernel
theorem dX11_lesson_15 : decode cX11_lesson 15 = .ok (.istore_n 3, 1) := by decide +kernel
theorem dX11_lesson_16 : decode cX11_lesson 16 = .ok (.iconst 0, 1) := by decide +kernel
theorem dX11_lesson_17 : decode cX11_lesson 17 = .ok (.istore 4, 2) := by decide +kernel
theorem dX11_lesson_19 : decode cX11_lesson 19 = .ok (.iload 4, 2) := by decide +kernel
theorem dX11_lesson_21 : decode cX11_lesson 21 = .ok (.iload_n 1, 1) := by decide +kernel
theorem dX11_lesson_22 : decode cX11_lesson 22 = .ok (.if_icmp .ge 39, 3) := by decide +kernel
theorem dX11_lesson_25 : decode cX11_lesson 25 = .ok (.aload_n 0, 1) := by decide +kernel
theorem dX11_lesson_26 : decode cX11_lesson 26 = .ok (.iload_n 2, 1) := by decide +kernel
theorem dX11_lesson_27 : decode cX11_lesson 27 = .ok (.invokevirtual 234, 3) := by decide +kernel
theorem dX11_lesson_30 : decode cX11_lesson 30 = .ok (.istore 5, 2) := by decide +kernel
theorem dX11_lesson_32 : decode cX11_lesson 32 = .ok (.iload 5, 2) := by decide +kernel
theorem dX11_lesson_34 : decode cX11_lesson 34 = .ok (.bipush (-4), 2) := by decide +kernel
theorem dX11_lesson_36 : decode cX11_lesson 36 = .ok (.if_icmp .eq 19, 3) := by decide +kernel
theorem dX11_lesson_39 : decode cX11_lesson 39 = .ok (.iload_n 2, 1) := by decide +kernel
theorem dX11_lesson_40 : decode cX11_lesson 40 = .ok (.iconst 1, 1) := by decide +kernel
theorem dX11_lesson_41 : decode cX11_lesson 41 = .ok (.iload 5, 2) := by decide +kernel
theorem dX11_lesson_43 : decode cX11_lesson 43 = .ok (.ishl, 1) := by decide +kernel
theorem dX11_lesson_44 : decode cX11_lesson 44 = .ok (.ior, 1) := by decide +kernel
theorem dX11_lesson_45 : decode cX11_lesson 45 = .ok (.istore_n 2, 1) := by decide +kernel
theorem dX11_lesson_46 : decode cX11_lesson 46 = .ok (.iload_n 3, 1) := by decide +kernel
theorem dX11_lesson_47 : decode cX11_lesson 47 = .ok (.aload_n 0, 1) := by decide +kernel
theorem dX11_lesson_48 : decode cX11_lesson 48 = .ok (.iload 5, 2) := by decide +kernel
theorem dX11_lesson_50 : decode cX11_lesson 50 = .ok (.invokevirtual 231, 3) := by decide +kernel
theorem dX11_lesson_53 : decode cX11_lesson 53 = .ok (.iadd, 1) := by decide +kernel
theorem dX11_lesson_54 : decode cX11_lesson 54 = .ok (.istore_n 3, 1) := by decide +kernel
theorem dX11_lesson_55 : decode cX11_lesson 55 = .ok (.iinc 4 1, 3) := by decide +kernel
theorem dX11_lesson_58 : decode cX11_lesson 58 = .ok (.goto (-39), 3) := by decide +kernel
theorem dX11_lesson_61 : decode cX11_lesson 61 = .ok (.iload_n 3, 1) := by decide +kernel
theorem dX11_lesson_62 : decode cX11_lesson 62 = .ok (.ireturn, 1) := by decide +kernel
theorem dX11_lacks_0 : decode cX11_lacks 0 = .ok (.aload_n 0, 1) := by decide +kernel
theorem dX11_lacks_1 : decode cX11_lacks 1 = .ok (.iload_n 1, 1) := by decide +kernel
theorem dX11_lacks_2 : decode cX11_lacks 2 = .ok (.iload_n 2, 1) := by decide +kernel
theorem dX11_lacks_3 : decode cX11_lacks 3 = .ok (.invokevirtual 152, 3) := by decide +kernel
theorem dX11_lacks_6 : decode cX11_lacks 6 = .ok (.istore_n 3, 1) := by decide +kernel
theorem dX11_lacks_7 : decode cX11_lacks 7 = .ok (.iload_n 3, 1) := by decide +kernel
theorem dX11_lacks_8 : decode cX11_lacks 8 = .ok (.ifCond .eq 5, 3) := by decide +kernel
theorem dX11_lacks_11 : decode cX11_lacks 11 = .ok (.iload_n 3, 1) := by decide +kernel
theorem dX11_lacks_12 : decode cX11_lacks 12 = .ok (.ireturn, 1) := by decide +kernel
theorem dX11_lacks_13 : decode cX11_lacks 13 = .ok (.aload_n 0, 1) := by decide +kernel
theorem dX11_lacks_14 : decode cX11_lacks 14 = .ok (.invokevirtual 161, 3) := by decide +kernel
theorem dX11_lacks_17 : decode cX11_lacks 17 = .ok (.istore 4, 2) := by decide +kernel
theorem dX11_lacks_19 : decode cX11_lacks 19 = .ok (.iload 4, 2) := by decide +kernel
theorem dX11_lacks_21 : decode cX11_lacks 21 = .ok (.bipush (-4), 2) := by decide +kernel
theorem dX11_lacks_23 : decode cX11_lacks 23 = .ok (.if_icmp .ne 8, 3) := by decide +kernel
theorem dX11_lacks_26 : decode cX11_lacks 26 = .ok (.bipush (-4), 2) := by decide +kernel
theorem dX11_lacks_28 : decode cX11_lacks 28 = .ok (.goto 12, 3) := by decide +kernel
theorem dX11_lacks_31 : decode cX11_lacks 31 = .ok (.aload_n 0, 1) := by decide +kernel
theorem dX11_lacks_32 : decode cX11_lacks 32 = .ok (.getfield 10, 3) := by decide +kernel
theorem dX11_lacks_35 : decode cX11_lacks 35 = .ok (.iload 4, 2) := by decide +kernel
theorem dX11_lacks_37 : decode cX11_lacks 37 = .ok (.invokevirtual 228, 3) := by decide +kernel
theorem dX11_lacks_40 : decode cX11_lacks 40 = .ok (.ireturn, 1) := by decide +kernel
theorem dX11_copied_0 : decode cX11_copied 0 = .ok (.iload 4, 2) := by decide +kernel
theorem dX11_copied_2 : decode cX11_copied 2 = .ok (.invokestatic 131, 3) := by decide +kernel
theorem dX11_copied_5 : decode cX11_copied 5 = .ok (.ifCond .ne 5, 3) := by decide +kernel
theorem dX11_copied_8 : decode cX11_copied 8 = .ok (.iconst (-1), 1) := by decide +kernel
theorem dX11_copied_9 : decode cX11_copied 9 = .ok (.ireturn, 1) := by decide +kernel
theorem dX11_copied_10 : decode cX11_copied 10 = .ok (.aload_n 0, 1) := by decide +kernel
theorem dX11_copied_11 : decode cX11_copied 11 = .ok (.iload_n 1, 1) := by decide +kernel
theorem dX11_copied_12 : decode cX11_copied 12 = .ok (.iload_n 2, 1) := by decide +kernel
theorem dX11_copied_13 : decode cX11_copied 13 = .ok (.invokevirtual 152, 3) := by decide +kernel
theorem dX11_copied_16 : decode cX11_copied 16 = .ok (.istore 5, 2) := by decide +kernel
theorem dX11_copied_18 : decode cX11_copied 18 = .ok (.iload 5, 2) := by decide +kernel
theorem dX11_copied_20 : decode cX11_copied 20 = .ok (.ifCond .ne 14, 3) := by decide +kernel
theorem dX11_copied_23 : decode cX11_copied 23 = .ok (.aload_n 0, 1) := by decide +kernel
theorem dX11_copied_24 : decode cX11_copied 24 = .ok (.iload_n 3, 1) := by decide +kernel
theorem dX11_copied_25 : decode cX11_copied 25 = .ok (.aload_n 0, 1) := by decide +kernel
theorem dX11_copied_26 : decode cX11_copied 26 = .ok (.getfield 45, 3) := by decide +kernel
theorem dX11_copied_29 : decode cX11_copied 29 = .ok (.invokevirtual 237, 3) := by decide +kernel
theorem dX11_copied_32 : decode cX11_copied 32 = .ok (.istore 5, 2) := by decide +kernel
theorem dX11_copied_34 : decode cX11_copied 34 = .ok (.iload 5, 2) := by decide +kernel
theorem dX11_copied_36 : decode cX11_copied 36 = .ok (.ifCond .eq 6, 3) := by decide +kernel
theorem dX11_copied_39 : decode cX11_copied 39 = .ok (.iload 5, 2) := by decide +kernel
theorem dX11_copied_41 : decode cX11_copied 41 = .ok (.ireturn, 1) := by decide +kernel
theorem dX11_copied_42 : decode cX11_copied 42 = .ok (.iconst 0, 1) := by decide +kernel
theorem dX11_copied_43 : decode cX11_copied 43 = .ok (.istore 6, 2) := by decide +kernel
theorem dX11_copied_45 : decode cX11_copied 45 = .ok (.iconst 0, 1) := by decide +kernel
theorem dX11_copied_46 : decode cX11_copied 46 = .ok (.istore 7, 2) := by decide +kernel
theorem dX11_copied_48 : decode cX11_copied 48 = .ok (.iload 7, 2) := by decide +kernel
theorem dX11_copied_50 : decode cX11_copied 50 = .ok (.aload_n 0, 1) := by decide +kernel
theorem dX11_copied_51 : decode cX11_copied 51 = .ok (.getfield 179, 3) := by decide +kernel
theorem dX11_copied_54 : decode cX11_copied 54 = .ok (.if_icmp .ge 35, 3) := by decide +kernel
theorem dX11_copied_57 : decode cX11_copied 57 = .ok (.aload_n 0, 1) := by decide +kernel
theorem dX11_copied_58 : decode cX11_copied 58 = .ok (.iload 7, 2) := by decide +kernel
theorem dX11_copied_60 : decode cX11_copied 60 = .ok (.invokevirtual 241, 3) := by decide +kernel
theorem dX11_copied_63 : decode cX11_copied 63 = .ok (.ifCond .eq 20, 3) := by decide +kernel
theorem dX11_copied_66 : decode cX11_copied 66 = .ok (.iload 4, 2) := by decide +kernel
theorem dX11_copied_68 : decode cX11_copied 68 = .ok (.ifCond .eq 12, 3) := by decide +kernel
theorem dX11_copied_71 : decode cX11_copied 71 = .ok (.aload_n 0, 1) := by decide +kernel
theorem dX11_copied_72 : decode cX11_copied 72 = .ok (.iload 7, 2) := by decide +kernel
theorem dX11_copied_74 : decode cX11_copied 74 = .ok (.invokevirtual 244, 3) := by decide +kernel
theorem dX11_copied_77 : decode cX11_copied 77 = .ok (.ifCond .eq 6, 3) := by decide +kernel
theorem dX11_copied_80 : decode cX11_copied 80 = .ok (.iinc 6 1, 3) := by decide +kernel
theorem dX11_copied_83 : decode cX11_copied 83 = .ok (.iinc 7 1, 3) := by decide +kernel
theorem dX11_copied_86 : decode cX11_copied 86 = .ok (.goto (-38), 3) := by decide +kernel
theorem dX11_copied_89 : decode cX11_copied 89 = .ok (.iload 6, 2) := by decide +kernel
theorem dX11_copied_91 : decode cX11_copied 91 = .ok (.ireturn, 1) := by decide +kernel
theorem dX11_judge_0 : decode cX11_judge 0 = .ok (.aload_n 0, 1) := by decide +kernel
theorem dX11_judge_1 : decode cX11_judge 1 = .ok (.iload_n 2, 1) := by decide +kernel
theorem dX11_judge_2 : decode cX11_judge 2 = .ok (.invokevirtual 59, 3) := by decide +kernel
theorem dX11_judge_5 : decode cX11_judge 5 = .ok (.astore_n 3, 1) := by decide +kernel
theorem dX11_judge_6 : decode cX11_judge 6 = .ok (.aload_n 0, 1) := by decide +kernel
theorem dX11_judge_7 : decode cX11_judge 7 = .ok (.getfield 10, 3) := by decide +kernel
theorem dX11_judge_10 : decode cX11_judge 10 = .ok (.iload_n 1, 1) := by decide +kernel
theorem dX11_judge_11 : decode cX11_judge 11 = .ok (.invokevirtual 128, 3) := by decide +kernel
theorem dX11_judge_14 : decode cX11_judge 14 = .ok (.ifCond .eq 7, 3) := by decide +kernel
theorem dX11_judge_17 : decode cX11_judge 17 = .ok (.aload_n 3, 1) := by decide +kernel
theorem dX11_judge_18 : decode cX11_judge 18 = .ok (.ifnonnull 5, 3) := by decide +kernel
theorem dX11_judge_21 : decode cX11_judge 21 = .ok (.iconst (-1), 1) := by decide +kernel
theorem dX11_judge_22 : decode cX11_judge 22 = .ok (.ireturn, 1) := by decide +kernel
theorem dX11_judge_23 : decode cX11_judge 23 = .ok (.aload_n 3, 1) := by decide +kernel
theorem dX11_judge_24 : decode cX11_judge 24 = .ok (.invokevirtual 247, 3) := by decide +kernel
theorem dX11_judge_27 : decode cX11_judge 27 = .ok (.istore 4, 2) := by decide +kernel
theorem dX11_judge_29 : decode cX11_judge 29 = .ok (.iload 4, 2) := by decide +kernel
theorem dX11_judge_31 : decode cX11_judge 31 = .ok (.ifCond .eq 6, 3) := by decide +kernel
theorem dX11_judge_34 : decode cX11_judge 34 = .ok (.iload 4, 2) := by decide +kernel
theorem dX11_judge_36 : decode cX11_judge 36 = .ok (.ireturn, 1) := by decide +kernel
theorem dX11_judge_37 : decode cX11_judge 37 = .ok (.aload_n 3, 1) := by decide +kernel
theorem dX11_judge_38 : decode cX11_judge 38 = .ok (.getfield 250, 3) := by decide +kernel
theorem dX11_judge_41 : decode cX11_judge 41 = .ok (.iconst 2, 1) := by decide +kernel
theorem dX11_judge_42 : decode cX11_judge 42 = .ok (.if_icmp .lt 19, 3) := by decide +kernel
theorem dX11_judge_45 : decode cX11_judge 45 = .ok (.aload_n 3, 1) := by decide +kernel
theorem dX11_judge_46 : decode cX11_judge 46 = .ok (.iconst 0, 1) := by decide +kernel
theorem dX11_judge_47 : decode cX11_judge 47 = .ok (.invokevirtual 253, 3) := by decide +kernel
theorem dX11_judge_50 : decode cX11_judge 50 = .ok (.aload_n 3, 1) := by decide +kernel
theorem dX11_judge_51 : decode cX11_judge 51 = .ok (.iconst 1, 1) := by decide +kernel
theorem dX11_judge_52 : decode cX11_judge 52 = .ok (.invokevirtual 253, 3) := by decide +kernel
theorem dX11_judge_55 : decode cX11_judge 55 = .ok (.invokestatic 120, 3) := by decide +kernel
theorem dX11_judge_58 : decode cX11_judge 58 = .ok (.ifCond .ne 6, 3) := by decide +kernel
theorem dX11_judge_61 : decode cX11_judge 61 = .ok (.bipush (-13), 2) := by decide +kernel
theorem dX11_judge_63 : decode cX11_judge 63 = .ok (.ireturn, 1) := by decide +kernel
theorem dX11_judge_64 : decode cX11_judge 64 = .ok (.aload_n 0, 1) := by decide +kernel
theorem dX11_judge_65 : decode cX11_judge 65 = .ok (.iload_n 1, 1) := by decide +kernel
theorem dX11_judge_66 : decode cX11_judge 66 = .ok (.aload_n 3, 1) := by decide +kernel
theorem dX11_judge_67 : decode cX11_judge 67 = .ok (.iconst 0, 1) := by decide +kernel
theorem dX11_judge_68 : decode cX11_judge 68 = .ok (.invokevirtual 253, 3) := by decide +kernel
theorem dX11_judge_71 : decode cX11_judge 71 = .ok (.aload_n 3, 1) := by decide +kernel
theorem dX11_judge_72 : decode cX11_judge 72 = .ok (.iconst 1, 1) := by decide +kernel
theorem dX11_judge_73 : decode cX11_judge 73 = .ok (.invokevirtual 253, 3) := by decide +kernel
theorem dX11_judge_76 : decode cX11_judge 76 = .ok (.invokevirtual 124, 3) := by decide +kernel
theorem dX11_judge_79 : decode cX11_judge 79 = .ok (.pop, 1) := by decide +kernel
theorem dX11_judge_80 : decode cX11_judge 80 = .ok (.iconst 2, 1) := by decide +kernel
theorem dX11_judge_81 : decode cX11_judge 81 = .ok (.istore 5, 2) := by decide +kernel
theorem dX11_judge_83 : decode cX11_judge 83 = .ok (.iload 5, 2) := by decide +kernel
theorem dX11_judge_85 : decode cX11_judge 85 = .ok (.aload_n 3, 1) := by decide +kernel
theorem dX11_judge_86 : decode cX11_judge 86 = .ok (.getfield 250, 3) := by decide +kernel
theorem dX11_judge_89 : decode cX11_judge 89 = .ok (.if_icmp .ge 56, 3) := by decide +kernel
theorem dX11_judge_92 : decode cX11_judge 92 = .ok (.aload_n 3, 1) := by decide +kernel
theorem dX11_judge_93 : decode cX11_judge 93 = .ok (.iload 5, 2) := by decide +kernel
theorem dX11_judge_95 : decode cX11_judge 95 = .ok (.invokevirtual 253, 3) := by decide +kernel
theorem dX11_judge_98 : decode cX11_judge 98 = .ok (.istore 6, 2) := by decide +kernel
theorem dX11_judge_100 : decode cX11_judge 100 = .ok (.iload 6, 2) := by decide +kernel
theorem dX11_judge_102 : decode cX11_judge 102 = .ok (.aload_n 3, 1) := by decide +kernel
theorem dX11_judge_103 : decode cX11_judge 103 = .ok (.invokevirtual 256, 3) := by decide +kernel
theorem dX11_judge_106 : decode cX11_judge 106 = .ok (.if_icmp .eq 33, 3) := by decide +kernel
theorem dX11_judge_109 : decode cX11_judge 109 = .ok (.iload 5, 2) := by decide +kernel
theorem dX11_judge_111 : decode cX11_judge 111 = .ok (.iconst 2, 1) := by decide +kernel
theorem dX11_judge_112 : decode cX11_judge 112 = .ok (.isub, 1) := by decide +kernel
theorem dX11_judge_113 : decode cX11_judge 113 = .ok (.iconst 4, 1) := by decide +kernel
theorem dX11_judge_114 : decode cX11_judge 114 = .ok (.if_icmp .ge 22, 3) := by decide +kernel
theorem dX11_judge_117 : decode cX11_judge 117 = .ok (.iload 6, 2) := by decide +kernel
theorem dX11_judge_119 : decode cX11_judge 119 = .ok (.aload_n 0, 1) := by decide +kernel
theorem dX11_judge_120 : decode cX11_judge 120 = .ok (.getfield 31, 3) := by decide +kernel
theorem dX11_judge_123 : decode cX11_judge 123 = .ok (.getfield 134, 3) := by decide +kernel
theorem dX11_judge_126 : decode cX11_judge 126 = .ok (.iload 5, 2) := by decide +kernel
theorem dX11_judge_128 : decode cX11_judge 128 = .ok (.iconst 2, 1) := by decide +kernel
theorem dX11_judge_129 : decode cX11_judge 129 = .ok (.isub, 1) := by decide +kernel
theorem dX11_judge_130 : decode cX11_judge 130 = .ok (.invokestatic 102, 3) := by decide +kernel
theorem dX11_judge_133 : decode cX11_judge 133 = .ok (.if_icmp .eq 6, 3) := by decide +kernel
theorem dX11_judge_136 : decode cX11_judge 136 = .ok (.iload 5, 2) := by decide +kernel
theorem dX11_judge_138 : decode cX11_judge 138 = .ok (.ireturn, 1) := by decide +kernel
theorem dX11_judge_139 : decode cX11_judge 139 = .ok (.iinc 5 1, 3) := by decide +kernel
theorem dX11_judge_142 : decode cX11_judge 142 = .ok (.goto (-59), 3) := by decide +kernel
theorem dX11_judge_145 : decode cX11_judge 145 = .ok (.bipush (-4), 2) := by decide +kernel
theorem dX11_judge_147 : decode cX11_judge 147 = .ok (.ireturn, 1) := by decide +kernel
theorem dX11_image_0 : decode cX11_image 0 = .ok (.aload_n 0, 1) := by decide +kernel
theorem dX11_image_1 : decode cX11_image 1 = .ok (.getfield 19, 3) := by decide +kernel
theorem dX11_image_4 : decode cX11_image 4 = .ok (.aload_n 0, 1) := by decide +kernel
theorem dX11_image_5 : decode cX11_image 5 = .ok (.getfield 10, 3) := by decide +kernel
theorem dX11_image_8 : decode cX11_image 8 = .ok (.invokevirtual 67, 3) := by decide +kernel
theorem dX11_image_11 : decode cX11_image 11 = .ok (.aload_n 0, 1) := by decide +kernel
theorem dX11_image_12 : decode cX11_image 12 = .ok (.iconst 1, 1) := by decide +kernel
theorem dX11_image_13 : decode cX11_image 13 = .ok (.putfield 259, 3) := by decide +kernel
theorem dX11_image_16 : decode cX11_image 16 = .ok (.aload_n 0, 1) := by decide +kernel
theorem dX11_image_17 : decode cX11_image 17 = .ok (.getfield 10, 3) := by decide +kernel
theorem dX11_image_20 : decode cX11_image 20 = .ok (.getfield 222, 3) := by decide +kernel
theorem dX11_image_23 : decode cX11_image 23 = .ok (.ireturn, 1) := by decide +kernel
theorem dX11_restore_0 : decode cX11_restore 0 = .ok (.aload_n 0, 1) := by decide +kernel
theorem dX11_restore_1 : decode cX11_restore 1 = .ok (.getfield 259, 3) := by decide +kernel
theorem dX11_restore_4 : decode cX11_restore 4 = .ok (.ifCond .ne 6, 3) := by decide +kernel
theorem dX11_restore_7 : decode cX11_restore 7 = .ok (.bipush (-3), 2) := by decide +kernel
theorem dX11_restore_9 : decode cX11_restore 9 = .ok (.ireturn, 1) := by decide +kernel
theorem dX11_restore_10 : decode cX11_restore 10 = .ok (.aload_n 0, 1) := by decide +kernel
theorem dX11_restore_11 : decode cX11_restore 11 = .ok (.getfield 10, 3) := by decide +kernel
theorem dX11_restore_14 : decode cX11_restore 14 = .ok (.aload_n 0, 1) := by decide +kernel
theorem dX11_restore_15 : decode cX11_restore 15 = .ok (.getfield 19, 3) := by decide +kernel
theorem dX11_restore_18 : decode cX11_restore 18 = .ok (.invokevirtual 67, 3) := by decide +kernel
theorem dX11_restore_21 : decode cX11_restore 21 = .ok (.aload_n 0, 1) := by decide +kernel
theorem dX11_restore_22 : decode cX11_restore 22 = .ok (.getfield 10, 3) := by decide +kernel
theorem dX11_restore_25 : decode cX11_restore 25 = .ok (.getfield 222, 3) := by decide +kernel
theorem dX11_restore_28 : decode cX11_restore 28 = .ok (.ireturn, 1) := by decide +kernel
theorem dX11_count_0 : decode cX11_count 0 = .ok (.iload_n 1, 1) := by decide +kernel
theorem dX11_count_1 : decode cX11_count 1 = .ok (.tableswitch 85 0 5 #[39, 47, 55, 60, 72, 77], 39) := by decide +kernel
theorem dX11_count_40 : decode cX11_count 40 = .ok (.aload_n 0, 1) := by decide +kernel
theorem dX11_count_41 : decode cX11_count 41 = .ok (.getfield 10, 3) := by decide +kernel
theorem dX11_count_44 : decode cX11_count 44 = .ok (.getfield 164, 3) := by decide +kernel
theorem dX11_count_47 : decode cX11_count 47 = .ok (.ireturn, 1) := by decide +kernel
theorem dX11_count_48 : decode cX11_count 48 = .ok (.aload_n 0, 1) := by decide +kernel
theorem dX11_count_49 : decode cX11_count 49 = .ok (.getfield 10, 3) := by decide +kernel
theorem dX11_count_52 : decode cX11_count 52 = .ok (.getfield 222, 3) := by decide +kernel
theorem dX11_count_55 : decode cX11_count 55 = .ok (.ireturn, 1) := by decide +kernel
theorem dX11_count_56 : decode cX11_count 56 = .ok (.aload_n 0, 1) := by decide +kernel
theorem dX11_count_57 : decode cX11_count 57 = .ok (.invokevirtual 263, 3) := by decide +kernel
theorem dX11_count_60 : decode cX11_count 60 = .ok (.ireturn, 1) := by decide +kernel
theorem dX11_count_61 : decode cX11_count 61 = .ok (.aload_n 0, 1) := by decide +kernel
theorem dX11_count_62 : decode cX11_count 62 = .ok (.aload_n 0, 1) := by decide +kernel
theorem dX11_count_63 : decode cX11_count 63 = .ok (.getfield 10, 3) := by decide +kernel
theorem dX11_count_66 : decode cX11_count 66 = .ok (.invokevirtual 266, 3) := by decide +kernel
theorem dX11_count_69 : decode cX11_count 69 = .ok (.invokevirtual 173, 3) := by decide +kernel
theorem dX11_count_72 : decode cX11_count 72 = .ok (.ireturn, 1) := by decide +kernel
theorem dX11_count_73 : decode cX11_count 73 = .ok (.aload_n 0, 1) := by decide +kernel
theorem dX11_count_74 : decode cX11_count 74 = .ok (.invokevirtual 269, 3) := by decide +kernel
theorem dX11_count_77 : decode cX11_count 77 = .ok (.ireturn, 1) := by decide +kernel
theorem dX11_count_78 : decode cX11_count 78 = .ok (.aload_n 0, 1) := by decide +kernel
theorem dX11_count_79 : decode cX11_count 79 = .ok (.getfield 10, 3) := by decide +kernel
theorem dX11_count_82 : decode cX11_count 82 = .ok (.invokevirtual 272, 3) := by decide +kernel
theorem dX11_count_85 : decode cX11_count 85 = .ok (.ireturn, 1) := by decide +kernel
theorem dX11_count_86 : decode cX11_count 86 = .ok (.iconst (-1), 1) := by decide +kernel
theorem dX11_count_87 : decode cX11_count 87 = .ok (.ireturn, 1) := by decide +kernel
theorem dX11_keep_0 : decode cX11_keep 0 = .ok (.aload_n 0, 1) := by decide +kernel
theorem dX11_keep_1 : decode cX11_keep 1 = .ok (.iload_n 1, 1) := by decide +kernel
theorem dX11_keep_2 : decode cX11_keep 2 = .ok (.invokevirtual 59, 3) := by decide +kernel
theorem dX11_keep_5 : decode cX11_keep 5 = .ok (.astore 4, 2) := by decide +kernel
theorem dX11_keep_7 : decode cX11_keep 7 = .ok (.aload 4, 2) := by decide +kernel
theorem dX11_keep_9 : decode cX11_keep 9 = .ok (.ifnull 26, 3) := by decide +kernel
theorem dX11_keep_12 : decode cX11_keep 12 = .ok (.iload_n 2, 1) := by decide +kernel
theorem dX11_keep_13 : decode cX11_keep 13 = .ok (.invokestatic 131, 3) := by decide +kernel
theorem dX11_keep_16 : decode cX11_keep 16 = .ok (.ifCond .eq 19, 3) := by decide +kernel
theorem dX11_keep_19 : decode cX11_keep 19 = .ok (.iload_n 2, 1) := by decide +kernel
theorem dX11_keep_20 : decode cX11_keep 20 = .ok (.iconst 1, 1) := by decide +kernel
theorem dX11_keep_21 : decode cX11_keep 21 = .ok (.if_icmp .ne 16, 3) := by decide +kernel
theorem dX11_keep_24 : decode cX11_keep 24 = .ok (.aload_n 0, 1) := by decide +kernel
theorem dX11_keep_25 : decode cX11_keep 25 = .ok (.getfield 10, 3) := by decide +kernel
theorem dX11_keep_28 : decode cX11_keep 28 = .ok (.iload_n 3, 1) := by decide +kernel
theorem dX11_keep_29 : decode cX11_keep 29 = .ok (.invokevirtual 128, 3) := by decide +kernel
theorem dX11_keep_32 : decode cX11_keep 32 = .ok (.ifCond .ne 5, 3) := by decide +kernel
theorem dX11_keep_35 : decode cX11_keep 35 = .ok (.iconst (-1), 1) := by decide +kernel
theorem dX11_keep_36 : decode cX11_keep 36 = .ok (.ireturn, 1) := by decide +kernel
theorem dX11_keep_37 : decode cX11_keep 37 = .ok (.aload 4, 2) := by decide +kernel
theorem dX11_keep_39 : decode cX11_keep 39 = .ok (.iload_n 2, 1) := by decide +kernel
theorem dX11_keep_40 : decode cX11_keep 40 = .ok (.iconst 1, 1) := by decide +kernel
theorem dX11_keep_41 : decode cX11_keep 41 = .ok (.if_icmp .ne 14, 3) := by decide +kernel
theorem dX11_keep_44 : decode cX11_keep 44 = .ok (.aload_n 0, 1) := by decide +kernel
theorem dX11_keep_45 : decode cX11_keep 45 = .ok (.getfield 10, 3) := by decide +kernel
theorem dX11_keep_48 : decode cX11_keep 48 = .ok (.iload_n 3, 1) := by decide +kernel
theorem dX11_keep_49 : decode cX11_keep 49 = .ok (.invokevirtual 75, 3) := by decide +kernel
theorem dX11_keep_52 : decode cX11_keep 52 = .ok (.goto 4, 3) := by decide +kernel
theorem dX11_keep_55 : decode cX11_keep 55 = .ok (.aconst_null, 1) := by decide +kernel
theorem dX11_keep_56 : decode cX11_keep 56 = .ok (.invokevirtual 275, 3) := by decide +kernel
theorem dX11_keep_59 : decode cX11_keep 59 = .ok (.iconst 0, 1) := by decide +kernel
theorem dX11_keep_60 : decode cX11_keep 60 = .ok (.ireturn, 1) := by decide +kernel
theorem dX11_row_0 : decode cX11_row 0 = .ok (.aload_n 0, 1) := by decide +kernel
theorem dX11_row_1 : decode cX11_row 1 = .ok (.iload_n 1, 1) := by decide +kernel
theorem dX11_row_2 : decode cX11_row 2 = .ok (.invokevirtual 59, 3) := by decide +kernel
theorem dX11_row_5 : decode cX11_row 5 = .ok (.astore 4, 2) := by decide +kernel
theorem dX11_row_7 : decode cX11_row 7 = .ok (.aload 4, 2) := by decide +kernel
theorem dX11_row_9 : decode cX11_row 9 = .ok (.ifnull 18, 3) := by decide +kernel
theorem dX11_row_12 : decode cX11_row 12 = .ok (.iload_n 2, 1) := by decide +kernel
theorem dX11_row_13 : decode cX11_row 13 = .ok (.ifCond .lt 14, 3) := by decide +kernel
theorem dX11_row_16 : decode cX11_row 16 = .ok (.iload_n 2, 1) := by decide +kernel
theorem dX11_row_17 : decode cX11_row 17 = .ok (.iconst 2, 1) := by decide +kernel
theorem dX11_row_18 : decode cX11_row 18 = .ok (.if_icmp .gt 9, 3) := by decide +kernel
theorem dX11_row_21 : decode cX11_row 21 = .ok (.iload_n 3, 1) := by decide +kernel
theorem dX11_row_22 : decode cX11_row 22 = .ok (.bipush 100, 2) := by decide +kernel
theorem dX11_row_24 : decode cX11_row 24 = .ok (.if_icmp .le 5, 3) := by decide +kernel
theorem dX11_row_27 : decode cX11_row 27 = .ok (.iconst (-1), 1) := by decide +kernel
theorem dX11_row_28 : decode cX11_row 28 = .ok (.ireturn, 1) := by decide +kernel
theorem dX11_row_29 : decode cX11_row 29 = .ok (.iload_n 3, 1) := by decide +kernel
theorem dX11_row_30 : decode cX11_row 30 = .ok (.ifCond .ge 6, 3) := by decide +kernel
theorem dX11_row_33 : decode cX11_row 33 = .ok (.bipush (-14), 2) := by decide +kernel
theorem dX11_row_35 : decode cX11_row 35 = .ok (.ireturn, 1) := by decide +kernel
theorem dX11_row_36 : decode cX11_row 36 = .ok (.aload 4, 2) := by decide +kernel
theorem dX11_row_38 : decode cX11_row 38 = .ok (.iload_n 2, 1) := by decide +kernel
theorem dX11_row_39 : decode cX11_row 39 = .ok (.iload_n 3, 1) := by decide +kernel
theorem dX11_row_40 : decode cX11_row 40 = .ok (.invokevirtual 206, 3) := by decide +kernel
theorem dX11_row_43 : decode cX11_row 43 = .ok (.iconst 0, 1) := by decide +kernel
theorem dX11_row_44 : decode cX11_row 44 = .ok (.ireturn, 1) := by decide +kernel
theorem dX11_put_0 : decode cX11_put 0 = .ok (.aload_n 0, 1) := by decide +kernel
theorem dX11_put_1 : decode cX11_put 1 = .ok (.iload_n 1, 1) := by decide +kernel
theorem dX11_put_2 : decode cX11_put 2 = .ok (.invokevirtual 59, 3) := by decide +kernel
theorem dX11_put_5 : decode cX11_put 5 = .ok (.astore 4, 2) := by decide +kernel
theorem dX11_put_7 : decode cX11_put 7 = .ok (.aload 4, 2) := by decide +kernel
theorem dX11_put_9 : decode cX11_put 9 = .ok (.ifnonnull 5, 3) := by decide +kernel
theorem dX11_put_12 : decode cX11_put 12 = .ok (.iconst (-1), 1) := by decide +kernel
theorem dX11_put_13 : decode cX11_put 13 = .ok (.ireturn, 1) := by decide +kernel
theorem dX11_put_14 : decode cX11_put 14 = .ok (.aload 4, 2) := by decide +kernel
theorem dX11_put_16 : decode cX11_put 16 = .ok (.invokevirtual 247, 3) := by decide +kernel
theorem dX11_put_19 : decode cX11_put 19 = .ok (.istore 5, 2) := by decide +kernel
theorem dX11_put_21 : decode cX11_put 21 = .ok (.iload 5, 2) := by decide +kernel
theorem dX11_put_23 : decode cX11_put 23 = .ok (.ifCond .eq 6, 3) := by decide +kernel
theorem dX11_put_26 : decode cX11_put 26 = .ok (.iload 5, 2) := by decide +kernel
theorem dX11_put_28 : decode cX11_put 28 = .ok (.ireturn, 1) := by decide +kernel
theorem dX11_put_29 : decode cX11_put 29 = .ok (.aload 4, 2) := by decide +kernel
theorem dX11_put_31 : decode cX11_put 31 = .ok (.iload_n 2, 1) := by decide +kernel
theorem dX11_put_32 : decode cX11_put 32 = .ok (.invokevirtual 279, 3) := by decide +kernel
theorem dX11_put_35 : decode cX11_put 35 = .ok (.ifCond .ne 6, 3) := by decide +kernel
theorem dX11_put_38 : decode cX11_put 38 = .ok (.bipush (-13), 2) := by decide +kernel
theorem dX11_put_40 : decode cX11_put 40 = .ok (.ireturn, 1) := by decide +kernel
theorem dX11_put_41 : decode cX11_put 41 = .ok (.aload 4, 2) := by decide +kernel
theorem dX11_put_43 : decode cX11_put 43 = .ok (.iload_n 2, 1) := by decide +kernel
theorem dX11_put_44 : decode cX11_put 44 = .ok (.iload_n 3, 1) := by decide +kernel
theorem dX11_put_45 : decode cX11_put 45 = .ok (.invokevirtual 219, 3) := by decide +kernel
theorem dX11_put_48 : decode cX11_put 48 = .ok (.iconst 0, 1) := by decide +kernel
theorem dX11_put_49 : decode cX11_put 49 = .ok (.ireturn, 1) := by decide +kernel
theorem dX11_element_0 : decode cX11_element 0 = .ok (.aload_n 0, 1) := by decide +kernel
theorem dX11_element_1 : decode cX11_element 1 = .ok (.iload_n 1, 1) := by decide +kernel
theorem dX11_element_2 : decode cX11_element 2 = .ok (.invokevirtual 59, 3) := by decide +kernel
theorem dX11_element_5 : decode cX11_element 5 = .ok (.astore_n 3, 1) := by decide +kernel
theorem dX11_element_6 : decode cX11_element 6 = .ok (.aload_n 3, 1) := by decide +kernel
theorem dX11_element_7 : decode cX11_element 7 = .ok (.ifnonnull 14, 3) := by decide +kernel
theorem dX11_element_10 : decode cX11_element 10 = .ok (.new 282, 3) := by decide +kernel
theorem dX11_element_13 : decode cX11_element 13 = .ok (.dup, 1) := by decide +kernel
theorem dX11_element_14 : decode cX11_element 14 = .ok (.ldc_w 284, 3) := by decide +kernel
theorem dX11_element_17 : decode cX11_element 17 = .ok (.invokespecial 286, 3) := by decide +kernel
theorem dX11_element_20 : decode cX11_element 20 = .ok (.athrow, 1) := by decide +kernel
theorem dX11_element_21 : decode cX11_element 21 = .ok (.aload_n 3, 1) := by decide +kernel
theorem dX11_element_22 : decode cX11_element 22 = .ok (.invokevirtual 247, 3) := by decide +kernel
theorem dX11_element_25 : decode cX11_element 25 = .ok (.ifCond .ne 11, 3) := by decide +kernel
theorem dX11_element_28 : decode cX11_element 28 = .ok (.aload_n 3, 1) := by decide +kernel
theorem dX11_element_29 : decode cX11_element 29 = .ok (.iload_n 2, 1) := by decide +kernel
theorem dX11_element_30 : decode cX11_element 30 = .ok (.invokevirtual 279, 3) := by decide +kernel
theorem dX11_element_33 : decode cX11_element 33 = .ok (.ifCond .ne 14, 3) := by decide +kernel
theorem dX11_element_36 : decode cX11_element 36 = .ok (.new 289, 3) := by decide +kernel
theorem dX11_element_39 : decode cX11_element 39 = .ok (.dup, 1) := by decide +kernel
theorem dX11_element_40 : decode cX11_element 40 = .ok (.ldc_w 291, 3) := by decide +kernel
theorem dX11_element_43 : decode cX11_element 43 = .ok (.invokespecial 293, 3) := by decide +kernel
theorem dX11_element_46 : decode cX11_element 46 = .ok (.athrow, 1) := by decide +kernel
theorem dX11_element_47 : decode cX11_element 47 = .ok (.aload_n 3, 1) := by decide +kernel
theorem dX11_element_48 : decode cX11_element 48 = .ok (.iload_n 2, 1) := by decide +kernel
theorem dX11_element_49 : decode cX11_element 49 = .ok (.invokevirtual 253, 3) := by decide +kernel
theorem dX11_element_52 : decode cX11_element 52 = .ok (.i2l, 1) := by decide +kernel
theorem dX11_element_53 : decode cX11_element 53 = .ok (.lreturn, 1) := by decide +kernel
theorem dX11_copy_0 : decode cX11_copy 0 = .ok (.aload_n 0, 1) := by decide +kernel
theorem dX11_copy_1 : decode cX11_copy 1 = .ok (.iload_n 1, 1) := by decide +kernel
theorem dX11_copy_2 : decode cX11_copy 2 = .ok (.invokevirtual 59, 3) := by decide +kernel
theorem dX11_copy_5 : decode cX11_copy 5 = .ok (.astore 6, 2) := by decide +kernel
theorem dX11_copy_7 : decode cX11_copy 7 = .ok (.aload_n 0, 1) := by decide +kernel
theorem dX11_copy_8 : decode cX11_copy 8 = .ok (.iload_n 3, 1) := by decide +kernel
theorem dX11_copy_9 : decode cX11_copy 9 = .ok (.invokevirtual 59, 3) := by decide +kernel
theorem dX11_copy_12 : decode cX11_copy 12 = .ok (.astore 7, 2) := by decide +kernel
theorem dX11_copy_14 : decode cX11_copy 14 = .ok (.aload 6, 2) := by decide +kernel
theorem dX11_copy_16 : decode cX11_copy 16 = .ok (.ifnull 8, 3) := by decide +kernel
theorem dX11_copy_19 : decode cX11_copy 19 = .ok (.aload 7, 2) := by decide +kernel
theorem dX11_copy_21 : decode cX11_copy 21 = .ok (.ifnonnull 5, 3) := by decide +kernel
theorem dX11_copy_24 : decode cX11_copy 24 = .ok (.iconst (-1), 1) := by decide +kernel
theorem dX11_copy_25 : decode cX11_copy 25 = .ok (.ireturn, 1) := by decide +kernel
theorem dX11_copy_26 : decode cX11_copy 26 = .ok (.aload 6, 2) := by decide +kernel
theorem dX11_copy_28 : decode cX11_copy 28 = .ok (.invokevirtual 294, 3) := by decide +kernel
theorem dX11_copy_31 : decode cX11_copy 31 = .ok (.ifCond .ne 11, 3) := by decide +kernel
theorem dX11_copy_34 : decode cX11_copy 34 = .ok (.aload 7, 2) := by decide +kernel
theorem dX11_copy_36 : decode cX11_copy 36 = .ok (.invokevirtual 294, 3) := by decide +kernel
theorem dX11_copy_39 : decode cX11_copy 39 = .ok (.ifCond .eq 6, 3) := by decide +kernel
theorem dX11_copy_42 : decode cX11_copy 42 = .ok (.bipush (-11), 2) := by decide +kernel
theorem dX11_copy_44 : decode cX11_copy 44 = .ok (.ireturn, 1) := by decide +kernel
theorem dX11_copy_45 : decode cX11_copy 45 = .ok (.aload 6, 2) := by decide +kernel
theorem dX11_copy_47 : decode cX11_copy 47 = .ok (.getfield 298, 3) := by decide +kernel
theorem dX11_copy_50 : decode cX11_copy 50 = .ok (.iconst (-1), 1) := by decide +kernel
theorem dX11_copy_51 : decode cX11_copy 51 = .ok (.if_icmp .eq 16, 3) := by decide +kernel
theorem dX11_copy_54 : decode cX11_copy 54 = .ok (.aload 6, 2) := by decide +kernel
theorem dX11_copy_56 : decode cX11_copy 56 = .ok (.getfield 298, 3) := by decide +kernel
theorem dX11_copy_59 : decode cX11_copy 59 = .ok (.aload 7, 2) := by decide +kernel
theorem dX11_copy_61 : decode cX11_copy 61 = .ok (.getfield 298, 3) := by decide +kernel
theorem dX11_copy_64 : decode cX11_copy 64 = .ok (.if_icmp .eq 6, 3) := by decide +kernel
theorem dX11_copy_67 : decode cX11_copy 67 = .ok (.bipush (-12), 2) := by decide +kernel
theorem dX11_copy_69 : decode cX11_copy 69 = .ok (.ireturn, 1) := by decide +kernel
theorem dX11_copy_70 : decode cX11_copy 70 = .ok (.aload 6, 2) := by decide +kernel
theorem dX11_copy_72 : decode cX11_copy 72 = .ok (.iload_n 2, 1) := by decide +kernel
theorem dX11_copy_73 : decode cX11_copy 73 = .ok (.iload 5, 2) := by decide +kernel
theorem dX11_copy_75 : decode cX11_copy 75 = .ok (.invokevirtual 301, 3) := by decide +kernel
theorem dX11_copy_78 : decode cX11_copy 78 = .ok (.ifCond .eq 15, 3) := by decide +kernel
theorem dX11_copy_81 : decode cX11_copy 81 = .ok (.aload 7, 2) := by decide +kernel
theorem dX11_copy_83 : decode cX11_copy 83 = .ok (.iload 4, 2) := by decide +kernel
theorem dX11_copy_85 : decode cX11_copy 85 = .ok (.iload 5, 2) := by decide +kernel
theorem dX11_copy_87 : decode cX11_copy 87 = .ok (.invokevirtual 301, 3) := by decide +kernel
theorem dX11_copy_90 : decode cX11_copy 90 = .ok (.ifCond .ne 6, 3) := by decide +kernel
theorem dX11_copy_93 : decode cX11_copy 93 = .ok (.bipush (-13), 2) := by decide +kernel
theorem dX11_copy_95 : decode cX11_copy 95 = .ok (.ireturn, 1) := by decide +kernel
theorem dX11_copy_96 : decode cX11_copy 96 = .ok (.aload 6, 2) := by decide +kernel
theorem dX11_copy_98 : decode cX11_copy 98 = .ok (.getfield 304, 3) := by decide +kernel
theorem dX11_copy_101 : decode cX11_copy 101 = .ok (.iload_n 2, 1) := by decide +kernel
theorem dX11_copy_102 : decode cX11_copy 102 = .ok (.aload 7, 2) := by decide +kernel
theorem dX11_copy_104 : decode cX11_copy 104 = .ok (.getfield 304, 3) := by decide +kernel
theorem dX11_copy_107 : decode cX11_copy 107 = .ok (.iload 4, 2) := by decide +kernel
theorem dX11_copy_109 : decode cX11_copy 109 = .ok (.iload 5, 2) := by decide +kernel
theorem dX11_copy_111 : decode cX11_copy 111 = .ok (.invokestatic 307, 3) := by decide +kernel
theorem dX11_copy_114 : decode cX11_copy 114 = .ok (.iload 5, 2) := by decide +kernel
theorem dX11_copy_116 : decode cX11_copy 116 = .ok (.ireturn, 1) := by decide +kernel
theorem dX11_cost_0 : decode cX11_cost 0 = .ok (.aload_n 0, 1) := by decide +kernel
theorem dX11_cost_1 : decode cX11_cost 1 = .ok (.iload_n 1, 1) := by decide +kernel
theorem dX11_cost_2 : decode cX11_cost 2 = .ok (.invokevirtual 59, 3) := by decide +kernel
theorem dX11_cost_5 : decode cX11_cost 5 = .ok (.astore_n 2, 1) := by decide +kernel
theorem dX11_cost_6 : decode cX11_cost 6 = .ok (.aload_n 2, 1) := by decide +kernel
theorem dX11_cost_7 : decode cX11_cost 7 = .ok (.ifnonnull 5, 3) := by decide +kernel
theorem dX11_cost_10 : decode cX11_cost 10 = .ok (.iconst (-1), 1) := by decide +kernel
theorem dX11_cost_11 : decode cX11_cost 11 = .ok (.ireturn, 1) := by decide +kernel
theorem dX11_cost_12 : decode cX11_cost 12 = .ok (.aload_n 2, 1) := by decide +kernel
theorem dX11_cost_13 : decode cX11_cost 13 = .ok (.getfield 313, 3) := by decide +kernel
theorem dX11_cost_16 : decode cX11_cost 16 = .ok (.astore_n 3, 1) := by decide +kernel
theorem dX11_cost_17 : decode cX11_cost 17 = .ok (.aload_n 3, 1) := by decide +kernel
theorem dX11_cost_18 : decode cX11_cost 18 = .ok (.ifnonnull 10, 3) := by decide +kernel
theorem dX11_cost_21 : decode cX11_cost 21 = .ok (.aload_n 2, 1) := by decide +kernel
theorem dX11_cost_22 : decode cX11_cost 22 = .ok (.invokevirtual 317, 3) := by decide +kernel
theorem dX11_cost_25 : decode cX11_cost 25 = .ok (.goto 7, 3) := by decide +kernel
theorem dX11_cost_28 : decode cX11_cost 28 = .ok (.aload_n 3, 1) := by decide +kernel
theorem dX11_cost_29 : decode cX11_cost 29 = .ok (.invokevirtual 91, 3) := by decide +kernel
theorem dX11_cost_32 : decode cX11_cost 32 = .ok (.ireturn, 1) := by decide +kernel
theorem dX11_toss_0 : decode cX11_toss 0 = .ok (.aload_n 0, 1) := by decide +kernel
theorem dX11_toss_1 : decode cX11_toss 1 = .ok (.iload_n 1, 1) := by decide +kernel
theorem dX11_toss_2 : decode cX11_toss 2 = .ok (.invokevirtual 59, 3) := by decide +kernel
theorem dX11_toss_5 : decode cX11_toss 5 = .ok (.astore_n 2, 1) := by decide +kernel
theorem dX11_toss_6 : decode cX11_toss 6 = .ok (.aload_n 2, 1) := by decide +kernel
theorem dX11_toss_7 : decode cX11_toss 7 = .ok (.ifnonnull 5, 3) := by decide +kernel
theorem dX11_toss_10 : decode cX11_toss 10 = .ok (.iconst (-1), 1) := by decide +kernel
theorem dX11_toss_11 : decode cX11_toss 11 = .ok (.ireturn, 1) := by decide +kernel
theorem dX11_toss_12 : decode cX11_toss 12 = .ok (.aload_n 2, 1) := by decide +kernel
theorem dX11_toss_13 : decode cX11_toss 13 = .ok (.getfield 313, 3) := by decide +kernel
theorem dX11_toss_16 : decode cX11_toss 16 = .ok (.astore_n 3, 1) := by decide +kernel
theorem dX11_toss_17 : decode cX11_toss 17 = .ok (.aload_n 3, 1) := by decide +kernel
theorem dX11_toss_18 : decode cX11_toss 18 = .ok (.ifnonnull 8, 3) := by decide +kernel
theorem dX11_toss_21 : decode cX11_toss 21 = .ok (.aload_n 2, 1) := by decide +kernel
theorem dX11_toss_22 : decode cX11_toss 22 = .ok (.invokevirtual 317, 3) := by decide +kernel
theorem dX11_toss_25 : decode cX11_toss 25 = .ok (.ireturn, 1) := by decide +kernel
theorem dX11_toss_26 : decode cX11_toss 26 = .ok (.aload_n 3, 1) := by decide +kernel
theorem dX11_toss_27 : decode cX11_toss 27 = .ok (.invokevirtual 320, 3) := by decide +kernel
theorem dX11_toss_30 : decode cX11_toss 30 = .ok (.ifCond .eq 10, 3) := by decide +kernel
theorem dX11_toss_33 : decode cX11_toss 33 = .ok (.aload_n 3, 1) := by decide +kernel
theorem dX11_toss_34 : decode cX11_toss 34 = .ok (.invokestatic 323, 3) := by decide +kernel
theorem dX11_toss_37 : decode cX11_toss 37 = .ok (.goto 5, 3) := by decide +kernel
theorem dX11_toss_40 : decode cX11_toss 40 = .ok (.bipush (-15), 2) := by decide +kernel
theorem dX11_toss_42 : decode cX11_toss 42 = .ok (.ireturn, 1) := by decide +kernel
theorem dX11_at_0 : decode cX11_at 0 = .ok (.iload_n 1, 1) := by decide +kernel
theorem dX11_at_1 : decode cX11_at 1 = .ok (.ifCond .lt 15, 3) := by decide +kernel
theorem dX11_at_4 : decode cX11_at 4 = .ok (.iload_n 1, 1) := by decide +kernel
theorem dX11_at_5 : decode cX11_at 5 = .ok (.aload_n 0, 1) := by decide +kernel
theorem dX11_at_6 : decode cX11_at 6 = .ok (.arraylength, 1) := by decide +kernel
theorem dX11_at_7 : decode cX11_at 7 = .ok (.if_icmp .ge 9, 3) := by decide +kernel
theorem dX11_at_10 : decode cX11_at 10 = .ok (.aload_n 0, 1) := by decide +kernel
theorem dX11_at_11 : decode cX11_at 11 = .ok (.iload_n 1, 1) := by decide +kernel
theorem dX11_at_12 : decode cX11_at 12 = .ok (.iaload, 1) := by decide +kernel
theorem dX11_at_13 : decode cX11_at 13 = .ok (.goto 4, 3) := by decide +kernel
theorem dX11_at_16 : decode cX11_at 16 = .ok (.iconst 0, 1) := by decide +kernel
theorem dX11_at_17 : decode cX11_at 17 = .ok (.ireturn, 1) := by decide +kernel
theorem dX11_set_0 : decode cX11_set 0 = .ok (.iload_n 1, 1) := by decide +kernel
theorem dX11_set_1 : decode cX11_set 1 = .ok (.ifCond .lt 13, 3) := by decide +kernel
theorem dX11_set_4 : decode cX11_set 4 = .ok (.iload_n 1, 1) := by decide +kernel
theorem dX11_set_5 : decode cX11_set 5 = .ok (.aload_n 0, 1) := by decide +kernel
theorem dX11_set_6 : decode cX11_set 6 = .ok (.arraylength, 1) := by decide +kernel
theorem dX11_set_7 : decode cX11_set 7 = .ok (.if_icmp .ge 7, 3) := by decide +kernel
theorem dX11_set_10 : decode cX11_set 10 = .ok (.aload_n 0, 1) := by decide +kernel
theorem dX11_set_11 : decode cX11_set 11 = .ok (.iload_n 1, 1) := by decide +kernel
theorem dX11_set_12 : decode cX11_set 12 = .ok (.iload_n 2, 1) := by decide +kernel
theorem dX11_set_13 : decode cX11_set 13 = .ok (.iastore, 1) := by decide +kernel
theorem dX11_set_14 : decode cX11_set 14 = .ok (.return_, 1) := by decide +kernel
theorem dX11_isZeroOrOne_0 : decode cX11_isZeroOrOne 0 = .ok (.iload_n 0, 1) := by decide +kernel
theorem dX11_isZeroOrOne_1 : decode cX11_isZeroOrOne 1 = .ok (.ifCond .eq 8, 3) := by decide +kernel
theorem dX11_isZeroOrOne_4 : decode cX11_isZeroOrOne 4 = .ok (.iload_n 0, 1) := by decide +kernel
theorem dX11_isZeroOrOne_5 : decode cX11_isZeroOrOne 5 = .ok (.iconst 1, 1) := by decide +kernel
theorem dX11_isZeroOrOne_6 : decode cX11_isZeroOrOne 6 = .ok (.if_icmp .ne 7, 3) := by decide +kernel
theorem dX11_isZeroOrOne_9 : decode cX11_isZeroOrOne 9 = .ok (.iconst 1, 1) := by decide +kernel
theorem dX11_isZeroOrOne_10 : decode cX11_isZeroOrOne 10 = .ok (.goto 4, 3) := by decide +kernel
theorem dX11_isZeroOrOne_13 : decode cX11_isZeroOrOne 13 = .ok (.iconst 0, 1) := by decide +kernel
theorem dX11_isZeroOrOne_14 : decode cX11_isZeroOrOne 14 = .ok (.ireturn, 1) := by decide +kernel
theorem dX11_isAmong_0 : decode cX11_isAmong 0 = .ok (.iload_n 0, 1) := by decide +kernel
theorem dX11_isAmong_1 : decode cX11_isAmong 1 = .ok (.iload_n 1, 1) := by decide +kernel
theorem dX11_isAmong_2 : decode cX11_isAmong 2 = .ok (.ishr, 1) := by decide +kernel
theorem dX11_isAmong_3 : decode cX11_isAmong 3 = .ok (.iconst 1, 1) := by decide +kernel
theorem dX11_isAmong_4 : decode cX11_isAmong 4 = .ok (.iand, 1) := by decide +kernel
theorem dX11_isAmong_5 : decode cX11_isAmong 5 = .ok (.iconst 1, 1) := by decide +kernel
theorem dX11_isAmong_6 : decode cX11_isAmong 6 = .ok (.if_icmp .ne 7, 3) := by decide +kernel
theorem dX11_isAmong_9 : decode cX11_isAmong 9 = .ok (.iconst 1, 1) := by decide +kernel
theorem dX11_isAmong_10 : decode cX11_isAmong 10 = .ok (.goto 4, 3) := by decide +kernel
theorem dX11_isAmong_13 : decode cX11_isAmong 13 = .ok (.iconst 0, 1) := by decide +kernel
theorem dX11_isAmong_14 : decode cX11_isAmong 14 = .ok (.ireturn, 1) := by decide +kernel
theorem dX11_isSum_0 : decode cX11_isSum 0 = .ok (.iload_n 1, 1) := by decide +kernel
theorem dX11_isSum_1 : decode cX11_isSum 1 = .ok (.ifCond .lt 19, 3) := by decide +kernel
theorem dX11_isSum_4 : decode cX11_isSum 4 = .ok (.iload_n 1, 1) := by decide +kernel
theorem dX11_isSum_5 : decode cX11_isSum 5 = .ok (.iload_n 0, 1) := by decide +kernel
theorem dX11_isSum_6 : decode cX11_isSum 6 = .ok (.if_icmp .gt 14, 3) := by decide +kernel
theorem dX11_isSum_9 : decode cX11_isSum 9 = .ok (.iload_n 0, 1) := by decide +kernel
theorem dX11_isSum_10 : decode cX11_isSum 10 = .ok (.sipush 9999, 3) := by decide +kernel
theorem dX11_isSum_13 : decode cX11_isSum 13 = .ok (.if_icmp .gt 7, 3) := by decide +kernel
theorem dX11_isSum_16 : decode cX11_isSum 16 = .ok (.iconst 1, 1) := by decide +kernel
theorem dX11_isSum_17 : decode cX11_isSum 17 = .ok (.goto 4, 3) := by decide +kernel
theorem dX11_isSum_20 : decode cX11_isSum 20 = .ok (.iconst 0, 1) := by decide +kernel
theorem dX11_isSum_21 : decode cX11_isSum 21 = .ok (.ireturn, 1) := by decide +kernel
theorem dX11_isAnswer_0 : decode cX11_isAnswer 0 = .ok (.iload_n 0, 1) := by decide +kernel
theorem dX11_isAnswer_1 : decode cX11_isAnswer 1 = .ok (.ifCond .lt 14, 3) := by decide +kernel
theorem dX11_isAnswer_4 : decode cX11_isAnswer 4 = .ok (.iload_n 0, 1) := by decide +kernel
theorem dX11_isAnswer_5 : decode cX11_isAnswer 5 = .ok (.sipush 9999, 3) := by decide +kernel
theorem dX11_isAnswer_8 : decode cX11_isAnswer 8 = .ok (.if_icmp .gt 7, 3) := by decide +kernel
theorem dX11_isAnswer_11 : decode cX11_isAnswer 11 = .ok (.iconst 1, 1) := by decide +kernel
theorem dX11_isAnswer_12 : decode cX11_isAnswer 12 = .ok (.goto 4, 3) := by decide +kernel
theorem dX11_isAnswer_15 : decode cX11_isAnswer 15 = .ok (.iconst 0, 1) := by decide +kernel
theorem dX11_isAnswer_16 : decode cX11_isAnswer 16 = .ok (.ireturn, 1) := by decide +kernel
theorem dX11_shelfAt_0 : decode cX11_shelfAt 0 = .ok (.iload_n 1, 1) := by decide +kernel
theorem dX11_shelfAt_1 : decode cX11_shelfAt 1 = .ok (.ifCond .lt 18, 3) := by decide +kernel
theorem dX11_shelfAt_4 : decode cX11_shelfAt 4 = .ok (.iload_n 1, 1) := by decide +kernel
theorem dX11_shelfAt_5 : decode cX11_shelfAt 5 = .ok (.bipush 8, 2) := by decide +kernel
theorem dX11_shelfAt_7 : decode cX11_shelfAt 7 = .ok (.if_icmp .ge 12, 3) := by decide +kernel
theorem dX11_shelfAt_10 : decode cX11_shelfAt 10 = .ok (.aload_n 0, 1) := by decide +kernel
theorem dX11_shelfAt_11 : decode cX11_shelfAt 11 = .ok (.getfield 24, 3) := by decide +kernel
theorem dX11_shelfAt_14 : decode cX11_shelfAt 14 = .ok (.iload_n 1, 1) := by decide +kernel
theorem dX11_shelfAt_15 : decode cX11_shelfAt 15 = .ok (.aaload, 1) := by decide +kernel
theorem dX11_shelfAt_16 : decode cX11_shelfAt 16 = .ok (.goto 4, 3) := by decide +kernel
theorem dX11_shelfAt_19 : decode cX11_shelfAt 19 = .ok (.aconst_null, 1) := by decide +kernel
theorem dX11_shelfAt_20 : decode cX11_shelfAt 20 = .ok (.areturn, 1) := by decide +kernel
theorem dX11_answerTo_0 : decode cX11_answerTo 0 = .ok (.aload_n 0, 1) := by decide +kernel
theorem dX11_answerTo_1 : decode cX11_answerTo 1 = .ok (.getfield 31, 3) := by decide +kernel
theorem dX11_answerTo_4 : decode cX11_answerTo 4 = .ok (.aload_n 0, 1) := by decide +kernel
theorem dX11_answerTo_5 : decode cX11_answerTo 5 = .ok (.getfield 10, 3) := by decide +kernel
theorem dX11_answerTo_8 : decode cX11_answerTo 8 = .ok (.iload_n 1, 1) := by decide +kernel
theorem dX11_answerTo_9 : decode cX11_answerTo 9 = .ok (.invokevirtual 75, 3) := by decide +kernel
theorem dX11_answerTo_12 : decode cX11_answerTo 12 = .ok (.iload_n 2, 1) := by decide +kernel
theorem dX11_answerTo_13 : decode cX11_answerTo 13 = .ok (.iload_n 3, 1) := by decide +kernel
theorem dX11_answerTo_14 : decode cX11_answerTo 14 = .ok (.invokevirtual 327, 3) := by decide +kernel
theorem dX11_answerTo_17 : decode cX11_answerTo 17 = .ok (.ireturn, 1) := by decide +kernel
theorem dX11_answerToSum_0 : decode cX11_answerToSum 0 = .ok (.aload_n 0, 1) := by decide +kernel
theorem dX11_answerToSum_1 : decode cX11_answerToSum 1 = .ok (.getfield 31, 3) := by decide +kernel
theorem dX11_answerToSum_4 : decode cX11_answerToSum 4 = .ok (.aload_n 0, 1) := by decide +kernel
theorem dX11_answerToSum_5 : decode cX11_answerToSum 5 = .ok (.getfield 10, 3) := by decide +kernel
theorem dX11_answerToSum_8 : decode cX11_answerToSum 8 = .ok (.iload_n 1, 1) := by decide +kernel
theorem dX11_answerToSum_9 : decode cX11_answerToSum 9 = .ok (.invokevirtual 75, 3) := by decide +kernel
theorem dX11_answerToSum_12 : decode cX11_answerToSum 12 = .ok (.aload_n 0, 1) := by decide +kernel
theorem dX11_answerToSum_13 : decode cX11_answerToSum 13 = .ok (.getfield 35, 3) := by decide +kernel
theorem dX11_answerToSum_16 : decode cX11_answerToSum 16 = .ok (.iload_n 2, 1) := by decide +kernel
theorem dX11_answerToSum_17 : decode cX11_answerToSum 17 = .ok (.invokestatic 102, 3) := by decide +kernel
theorem dX11_answerToSum_20 : decode cX11_answerToSum 20 = .ok (.aload_n 0, 1) := by decide +kernel
theorem dX11_answerToSum_21 : decode cX11_answerToSum 21 = .ok (.getfield 39, 3) := by decide +kernel
theorem dX11_answerToSum_24 : decode cX11_answerToSum 24 = .ok (.iload_n 2, 1) := by decide +kernel
theorem dX11_answerToSum_25 : decode cX11_answerToSum 25 = .ok (.invokestatic 102, 3) := by decide +kernel
theorem dX11_answerToSum_28 : decode cX11_answerToSum 28 = .ok (.invokevirtual 327, 3) := by decide +kernel
theorem dX11_answerToSum_31 : decode cX11_answerToSum 31 = .ok (.ireturn, 1) := by decide +kernel
theorem dX11_waysAnswering_0 : decode cX11_waysAnswering 0 = .ok (.iconst 0, 1) := by decide +kernel
theorem dX11_waysAnswering_1 : decode cX11_waysAnswering 1 = .ok (.istore 4, 2) := by decide +kernel
theorem dX11_waysAnswering_3 : decode cX11_waysAnswering 3 = .ok (.iconst 0, 1) := by decide +kernel
theorem dX11_waysAnswering_4 : decode cX11_waysAnswering 4 = .ok (.istore 5, 2) := by decide +kernel
theorem dX11_waysAnswering_6 : decode cX11_waysAnswering 6 = .ok (.iload 5, 2) := by decide +kernel
theorem dX11_waysAnswering_8 : decode cX11_waysAnswering 8 = .ok (.aload_n 0, 1) := by decide +kernel
theorem dX11_waysAnswering_9 : decode cX11_waysAnswering 9 = .ok (.getfield 10, 3) := by decide +kernel
theorem dX11_waysAnswering_12 : decode cX11_waysAnswering 12 = .ok (.getfield 164, 3) := by decide +kernel
theorem dX11_waysAnswering_15 : decode cX11_waysAnswering 15 = .ok (.if_icmp .ge 30, 3) := by decide +kernel
theorem dX11_waysAnswering_18 : decode cX11_waysAnswering 18 = .ok (.aload_n 0, 1) := by decide +kernel
theorem dX11_waysAnswering_19 : decode cX11_waysAnswering 19 = .ok (.iload 5, 2) := by decide +kernel
theorem dX11_waysAnswering_21 : decode cX11_waysAnswering 21 = .ok (.iload_n 1, 1) := by decide +kernel
theorem dX11_waysAnswering_22 : decode cX11_waysAnswering 22 = .ok (.iload_n 2, 1) := by decide +kernel
theorem dX11_waysAnswering_23 : decode cX11_waysAnswering 23 = .ok (.invokevirtual 124, 3) := by decide +kernel
theorem dX11_waysAnswering_26 : decode cX11_waysAnswering 26 = .ok (.iload_n 3, 1) := by decide +kernel
theorem dX11_waysAnswering_27 : decode cX11_waysAnswering 27 = .ok (.if_icmp .ne 12, 3) := by decide +kernel
theorem dX11_waysAnswering_30 : decode cX11_waysAnswering 30 = .ok (.iload 4, 2) := by decide +kernel
theorem dX11_waysAnswering_32 : decode cX11_waysAnswering 32 = .ok (.iconst 1, 1) := by decide +kernel
theorem dX11_waysAnswering_33 : decode cX11_waysAnswering 33 = .ok (.iload 5, 2) := by decide +kernel
theorem dX11_waysAnswering_35 : decode cX11_waysAnswering 35 = .ok (.ishl, 1) := by decide +kernel
theorem dX11_waysAnswering_36 : decode cX11_waysAnswering 36 = .ok (.ior, 1) := by decide +kernel
theorem dX11_waysAnswering_37 : decode cX11_waysAnswering 37 = .ok (.istore 4, 2) := by decide +kernel
theorem dX11_waysAnswering_39 : decode cX11_waysAnswering 39 = .ok (.iinc 5 1, 3) := by decide +kernel
theorem dX11_waysAnswering_42 : decode cX11_waysAnswering 42 = .ok (.goto (-36), 3) := by decide +kernel
theorem dX11_waysAnswering_45 : decode cX11_waysAnswering 45 = .ok (.iload 4, 2) := by decide +kernel
theorem dX11_waysAnswering_47 : decode cX11_waysAnswering 47 = .ok (.ireturn, 1) := by decide +kernel
theorem dX11_unlikeAnswers_0 : decode cX11_unlikeAnswers 0 = .ok (.iconst 0, 1) := by decide +kernel
theorem dX11_unlikeAnswers_1 : decode cX11_unlikeAnswers 1 = .ok (.istore 4, 2) := by decide +kernel
theorem dX11_unlikeAnswers_3 : decode cX11_unlikeAnswers 3 = .ok (.iconst 0, 1) := by decide +kernel
theorem dX11_unlikeAnswers_4 : decode cX11_unlikeAnswers 4 = .ok (.istore 5, 2) := by decide +kernel
theorem dX11_unlikeAnswers_6 : decode cX11_unlikeAnswers 6 = .ok (.iload 5, 2) := by decide +kernel
theorem dX11_unlikeAnswers_8 : decode cX11_unlikeAnswers 8 = .ok (.aload_n 0, 1) := by decide +kernel
theorem dX11_unlikeAnswers_9 : decode cX11_unlikeAnswers 9 = .ok (.getfield 10, 3) := by decide +kernel
theorem dX11_unlikeAnswers_12 : decode cX11_unlikeAnswers 12 = .ok (.getfield 164, 3) := by decide +kernel
theorem dX11_unlikeAnswers_15 : decode cX11_unlikeAnswers 15 = .ok (.if_icmp .ge 53, 3) := by decide +kernel
theorem dX11_unlikeAnswers_18 : decode cX11_unlikeAnswers 18 = .ok (.aload_n 0, 1) := by decide +kernel
theorem dX11_unlikeAnswers_19 : decode cX11_unlikeAnswers 19 = .ok (.iload 5, 2) := by decide +kernel
theorem dX11_unlikeAnswers_21 : decode cX11_unlikeAnswers 21 = .ok (.iload_n 1, 1) := by decide +kernel
theorem dX11_unlikeAnswers_22 : decode cX11_unlikeAnswers 22 = .ok (.iload_n 2, 1) := by decide +kernel
theorem dX11_unlikeAnswers_23 : decode cX11_unlikeAnswers 23 = .ok (.invokevirtual 124, 3) := by decide +kernel
theorem dX11_unlikeAnswers_26 : decode cX11_unlikeAnswers 26 = .ok (.istore 6, 2) := by decide +kernel
theorem dX11_unlikeAnswers_28 : decode cX11_unlikeAnswers 28 = .ok (.iload_n 3, 1) := by decide +kernel
theorem dX11_unlikeAnswers_29 : decode cX11_unlikeAnswers 29 = .ok (.iload 5, 2) := by decide +kernel
theorem dX11_unlikeAnswers_31 : decode cX11_unlikeAnswers 31 = .ok (.invokestatic 331, 3) := by decide +kernel
theorem dX11_unlikeAnswers_34 : decode cX11_unlikeAnswers 34 = .ok (.ifCond .eq 28, 3) := by decide +kernel
theorem dX11_unlikeAnswers_37 : decode cX11_unlikeAnswers 37 = .ok (.aload_n 0, 1) := by decide +kernel
theorem dX11_unlikeAnswers_38 : decode cX11_unlikeAnswers 38 = .ok (.iload 6, 2) := by decide +kernel
theorem dX11_unlikeAnswers_40 : decode cX11_unlikeAnswers 40 = .ok (.iload 4, 2) := by decide +kernel
theorem dX11_unlikeAnswers_42 : decode cX11_unlikeAnswers 42 = .ok (.invokevirtual 334, 3) := by decide +kernel
theorem dX11_unlikeAnswers_45 : decode cX11_unlikeAnswers 45 = .ok (.ifCond .eq 17, 3) := by decide +kernel
theorem dX11_unlikeAnswers_48 : decode cX11_unlikeAnswers 48 = .ok (.aload_n 0, 1) := by decide +kernel
theorem dX11_unlikeAnswers_49 : decode cX11_unlikeAnswers 49 = .ok (.getfield 48, 3) := by decide +kernel
theorem dX11_unlikeAnswers_52 : decode cX11_unlikeAnswers 52 = .ok (.iload 4, 2) := by decide +kernel
theorem dX11_unlikeAnswers_54 : decode cX11_unlikeAnswers 54 = .ok (.iload 6, 2) := by decide +kernel
theorem dX11_unlikeAnswers_56 : decode cX11_unlikeAnswers 56 = .ok (.invokestatic 116, 3) := by decide +kernel
theorem dX11_unlikeAnswers_59 : decode cX11_unlikeAnswers 59 = .ok (.iinc 4 1, 3) := by decide +kernel
theorem dX11_unlikeAnswers_62 : decode cX11_unlikeAnswers 62 = .ok (.iinc 5 1, 3) := by decide +kernel
theorem dX11_unlikeAnswers_65 : decode cX11_unlikeAnswers 65 = .ok (.goto (-59), 3) := by decide +kernel
theorem dX11_unlikeAnswers_68 : decode cX11_unlikeAnswers 68 = .ok (.iload 4, 2) := by decide +kernel
theorem dX11_unlikeAnswers_70 : decode cX11_unlikeAnswers 70 = .ok (.ireturn, 1) := by decide +kernel
theorem dX11_isNew_0 : decode cX11_isNew 0 = .ok (.iconst 0, 1) := by decide +kernel
theorem dX11_isNew_1 : decode cX11_isNew 1 = .ok (.istore_n 3, 1) := by decide +kernel
theorem dX11_isNew_2 : decode cX11_isNew 2 = .ok (.iload_n 3, 1) := by decide +kernel
theorem dX11_isNew_3 : decode cX11_isNew 3 = .ok (.iload_n 2, 1) := by decide +kernel
theorem dX11_isNew_4 : decode cX11_isNew 4 = .ok (.if_icmp .ge 23, 3) := by decide +kernel
theorem dX11_isNew_7 : decode cX11_isNew 7 = .ok (.aload_n 0, 1) := by decide +kernel
theorem dX11_isNew_8 : decode cX11_isNew 8 = .ok (.getfield 48, 3) := by decide +kernel
theorem dX11_isNew_11 : decode cX11_isNew 11 = .ok (.iload_n 3, 1) := by decide +kernel
theorem dX11_isNew_12 : decode cX11_isNew 12 = .ok (.invokestatic 102, 3) := by decide +kernel
theorem dX11_isNew_15 : decode cX11_isNew 15 = .ok (.iload_n 1, 1) := by decide +kernel
theorem dX11_isNew_16 : decode cX11_isNew 16 = .ok (.if_icmp .ne 5, 3) := by decide +kernel
theorem dX11_isNew_19 : decode cX11_isNew 19 = .ok (.iconst 0, 1) := by decide +kernel
theorem dX11_isNew_20 : decode cX11_isNew 20 = .ok (.ireturn, 1) := by decide +kernel
theorem dX11_isNew_21 : decode cX11_isNew 21 = .ok (.iinc 3 1, 3) := by decide +kernel
theorem dX11_isNew_24 : decode cX11_isNew 24 = .ok (.goto (-22), 3) := by decide +kernel
theorem dX11_isNew_27 : decode cX11_isNew 27 = .ok (.iconst 1, 1) := by decide +kernel
theorem dX11_isNew_28 : decode cX11_isNew 28 = .ok (.ireturn, 1) := by decide +kernel
theorem dX11_refusalOfSheet_0 : decode cX11_refusalOfSheet 0 = .ok (.aload_n 0, 1) := by decide +kernel
theorem dX11_refusalOfSheet_1 : decode cX11_refusalOfSheet 1 = .ok (.iload_n 1, 1) := by decide +kernel
theorem dX11_refusalOfSheet_2 : decode cX11_refusalOfSheet 2 = .ok (.invokevirtual 59, 3) := by decide +kernel
theorem dX11_refusalOfSheet_5 : decode cX11_refusalOfSheet 5 = .ok (.astore_n 2, 1) := by decide +kernel
theorem dX11_refusalOfSheet_6 : decode cX11_refusalOfSheet 6 = .ok (.aload_n 2, 1) := by decide +kernel
theorem dX11_refusalOfSheet_7 : decode cX11_refusalOfSheet 7 = .ok (.ifnonnull 5, 3) := by decide +kernel
theorem dX11_refusalOfSheet_10 : decode cX11_refusalOfSheet 10 = .ok (.iconst (-1), 1) := by decide +kernel
theorem dX11_refusalOfSheet_11 : decode cX11_refusalOfSheet 11 = .ok (.ireturn, 1) := by decide +kernel
theorem dX11_refusalOfSheet_12 : decode cX11_refusalOfSheet 12 = .ok (.aload_n 2, 1) := by decide +kernel
theorem dX11_refusalOfSheet_13 : decode cX11_refusalOfSheet 13 = .ok (.iconst 2, 1) := by decide +kernel
theorem dX11_refusalOfSheet_14 : decode cX11_refusalOfSheet 14 = .ok (.invokevirtual 63, 3) := by decide +kernel
theorem dX11_refusalOfSheet_17 : decode cX11_refusalOfSheet 17 = .ok (.istore_n 3, 1) := by decide +kernel
theorem dX11_refusalOfSheet_18 : decode cX11_refusalOfSheet 18 = .ok (.iload_n 3, 1) := by decide +kernel
theorem dX11_refusalOfSheet_19 : decode cX11_refusalOfSheet 19 = .ok (.ifCond .eq 5, 3) := by decide +kernel
theorem dX11_refusalOfSheet_22 : decode cX11_refusalOfSheet 22 = .ok (.iload_n 3, 1) := by decide +kernel
theorem dX11_refusalOfSheet_23 : decode cX11_refusalOfSheet 23 = .ok (.ireturn, 1) := by decide +kernel
theorem dX11_refusalOfSheet_24 : decode cX11_refusalOfSheet 24 = .ok (.aload_n 2, 1) := by decide +kernel
theorem dX11_refusalOfSheet_25 : decode cX11_refusalOfSheet 25 = .ok (.getfield 250, 3) := by decide +kernel
theorem dX11_refusalOfSheet_28 : decode cX11_refusalOfSheet 28 = .ok (.iconst 2, 1) := by decide +kernel
theorem dX11_refusalOfSheet_29 : decode cX11_refusalOfSheet 29 = .ok (.irem, 1) := by decide +kernel
theorem dX11_refusalOfSheet_30 : decode cX11_refusalOfSheet 30 = .ok (.ifCond .ne 12, 3) := by decide +kernel
theorem dX11_refusalOfSheet_33 : decode cX11_refusalOfSheet 33 = .ok (.aload_n 2, 1) := by decide +kernel
theorem dX11_refusalOfSheet_34 : decode cX11_refusalOfSheet 34 = .ok (.getfield 250, 3) := by decide +kernel
theorem dX11_refusalOfSheet_37 : decode cX11_refusalOfSheet 37 = .ok (.bipush 24, 2) := by decide +kernel
theorem dX11_refusalOfSheet_39 : decode cX11_refusalOfSheet 39 = .ok (.if_icmp .le 6, 3) := by decide +kernel
theorem dX11_refusalOfSheet_42 : decode cX11_refusalOfSheet 42 = .ok (.bipush (-13), 2) := by decide +kernel
theorem dX11_refusalOfSheet_44 : decode cX11_refusalOfSheet 44 = .ok (.ireturn, 1) := by decide +kernel
theorem dX11_refusalOfSheet_45 : decode cX11_refusalOfSheet 45 = .ok (.aload_n 0, 1) := by decide +kernel
theorem dX11_refusalOfSheet_46 : decode cX11_refusalOfSheet 46 = .ok (.aload_n 2, 1) := by decide +kernel
theorem dX11_refusalOfSheet_47 : decode cX11_refusalOfSheet 47 = .ok (.getfield 250, 3) := by decide +kernel
theorem dX11_refusalOfSheet_50 : decode cX11_refusalOfSheet 50 = .ok (.iconst 2, 1) := by decide +kernel
theorem dX11_refusalOfSheet_51 : decode cX11_refusalOfSheet 51 = .ok (.idiv, 1) := by decide +kernel
theorem dX11_refusalOfSheet_52 : decode cX11_refusalOfSheet 52 = .ok (.putfield 179, 3) := by decide +kernel
theorem dX11_refusalOfSheet_55 : decode cX11_refusalOfSheet 55 = .ok (.iconst 0, 1) := by decide +kernel
theorem dX11_refusalOfSheet_56 : decode cX11_refusalOfSheet 56 = .ok (.istore 4, 2) := by decide +kernel
theorem dX11_refusalOfSheet_58 : decode cX11_refusalOfSheet 58 = .ok (.iload 4, 2) := by decide +kernel
theorem dX11_refusalOfSheet_60 : decode cX11_refusalOfSheet 60 = .ok (.aload_n 0, 1) := by decide +kernel
theorem dX11_refusalOfSheet_61 : decode cX11_refusalOfSheet 61 = .ok (.getfield 179, 3) := by decide +kernel
theorem dX11_refusalOfSheet_64 : decode cX11_refusalOfSheet 64 = .ok (.if_icmp .ge 72, 3) := by decide +kernel
theorem dX11_refusalOfSheet_67 : decode cX11_refusalOfSheet 67 = .ok (.aload_n 2, 1) := by decide +kernel
theorem dX11_refusalOfSheet_68 : decode cX11_refusalOfSheet 68 = .ok (.iconst 2, 1) := by decide +kernel
theorem dX11_refusalOfSheet_69 : decode cX11_refusalOfSheet 69 = .ok (.iload 4, 2) := by decide +kernel
theorem dX11_refusalOfSheet_71 : decode cX11_refusalOfSheet 71 = .ok (.imul, 1) := by decide +kernel
theorem dX11_refusalOfSheet_72 : decode cX11_refusalOfSheet 72 = .ok (.invokevirtual 253, 3) := by decide +kernel
theorem dX11_refusalOfSheet_75 : decode cX11_refusalOfSheet 75 = .ok (.aload_n 2, 1) := by decide +kernel
theorem dX11_refusalOfSheet_76 : decode cX11_refusalOfSheet 76 = .ok (.iconst 2, 1) := by decide +kernel
theorem dX11_refusalOfSheet_77 : decode cX11_refusalOfSheet 77 = .ok (.iload 4, 2) := by decide +kernel
theorem dX11_refusalOfSheet_79 : decode cX11_refusalOfSheet 79 = .ok (.imul, 1) := by decide +kernel
theorem dX11_refusalOfSheet_80 : decode cX11_refusalOfSheet 80 = .ok (.iconst 1, 1) := by decide +kernel
theorem dX11_refusalOfSheet_81 : decode cX11_refusalOfSheet 81 = .ok (.iadd, 1) := by decide +kernel
theorem dX11_refusalOfSheet_82 : decode cX11_refusalOfSheet 82 = .ok (.invokevirtual 253, 3) := by decide +kernel
theorem dX11_refusalOfSheet_85 : decode cX11_refusalOfSheet 85 = .ok (.invokestatic 120, 3) := by decide +kernel
theorem dX11_refusalOfSheet_88 : decode cX11_refusalOfSheet 88 = .ok (.ifCond .ne 6, 3) := by decide +kernel
theorem dX11_refusalOfSheet_91 : decode cX11_refusalOfSheet 91 = .ok (.bipush (-13), 2) := by decide +kernel
theorem dX11_refusalOfSheet_93 : decode cX11_refusalOfSheet 93 = .ok (.ireturn, 1) := by decide +kernel
theorem dX11_refusalOfSheet_94 : decode cX11_refusalOfSheet 94 = .ok (.aload_n 0, 1) := by decide +kernel
theorem dX11_refusalOfSheet_95 : decode cX11_refusalOfSheet 95 = .ok (.getfield 35, 3) := by decide +kernel
theorem dX11_refusalOfSheet_98 : decode cX11_refusalOfSheet 98 = .ok (.iload 4, 2) := by decide +kernel
theorem dX11_refusalOfSheet_100 : decode cX11_refusalOfSheet 100 = .ok (.aload_n 2, 1) := by decide +kernel
theorem dX11_refusalOfSheet_101 : decode cX11_refusalOfSheet 101 = .ok (.iconst 2, 1) := by decide +kernel
theorem dX11_refusalOfSheet_102 : decode cX11_refusalOfSheet 102 = .ok (.iload 4, 2) := by decide +kernel
theorem dX11_refusalOfSheet_104 : decode cX11_refusalOfSheet 104 = .ok (.imul, 1) := by decide +kernel
theorem dX11_refusalOfSheet_105 : decode cX11_refusalOfSheet 105 = .ok (.invokevirtual 253, 3) := by decide +kernel
theorem dX11_refusalOfSheet_108 : decode cX11_refusalOfSheet 108 = .ok (.invokestatic 116, 3) := by decide +kernel
theorem dX11_refusalOfSheet_111 : decode cX11_refusalOfSheet 111 = .ok (.aload_n 0, 1) := by decide +kernel
theorem dX11_refusalOfSheet_112 : decode cX11_refusalOfSheet 112 = .ok (.getfield 39, 3) := by decide +kernel
theorem dX11_refusalOfSheet_115 : decode cX11_refusalOfSheet 115 = .ok (.iload 4, 2) := by decide +kernel
theorem dX11_refusalOfSheet_117 : decode cX11_refusalOfSheet 117 = .ok (.aload_n 2, 1) := by decide +kernel
theorem dX11_refusalOfSheet_118 : decode cX11_refusalOfSheet 118 = .ok (.iconst 2, 1) := by decide +kernel
theorem dX11_refusalOfSheet_119 : decode cX11_refusalOfSheet 119 = .ok (.iload 4, 2) := by decide +kernel
theorem dX11_refusalOfSheet_121 : decode cX11_refusalOfSheet 121 = .ok (.imul, 1) := by decide +kernel
theorem dX11_refusalOfSheet_122 : decode cX11_refusalOfSheet 122 = .ok (.iconst 1, 1) := by decide +kernel
theorem dX11_refusalOfSheet_123 : decode cX11_refusalOfSheet 123 = .ok (.iadd, 1) := by decide +kernel
theorem dX11_refusalOfSheet_124 : decode cX11_refusalOfSheet 124 = .ok (.invokevirtual 253, 3) := by decide +kernel
theorem dX11_refusalOfSheet_127 : decode cX11_refusalOfSheet 127 = .ok (.invokestatic 116, 3) := by decide +kernel
theorem dX11_refusalOfSheet_130 : decode cX11_refusalOfSheet 130 = .ok (.iinc 4 1, 3) := by decide +kernel
theorem dX11_refusalOfSheet_133 : decode cX11_refusalOfSheet 133 = .ok (.goto (-75), 3) := by decide +kernel
theorem dX11_refusalOfSheet_136 : decode cX11_refusalOfSheet 136 = .ok (.iconst 0, 1) := by decide +kernel
theorem dX11_refusalOfSheet_137 : decode cX11_refusalOfSheet 137 = .ok (.ireturn, 1) := by decide +kernel
theorem dX11_refusalOfAnswers_0 : decode cX11_refusalOfAnswers 0 = .ok (.aload_n 0, 1) := by decide +kernel
theorem dX11_refusalOfAnswers_1 : decode cX11_refusalOfAnswers 1 = .ok (.iload_n 1, 1) := by decide +kernel
theorem dX11_refusalOfAnswers_2 : decode cX11_refusalOfAnswers 2 = .ok (.invokevirtual 59, 3) := by decide +kernel
theorem dX11_refusalOfAnswers_5 : decode cX11_refusalOfAnswers 5 = .ok (.astore_n 3, 1) := by decide +kernel
theorem dX11_refusalOfAnswers_6 : decode cX11_refusalOfAnswers 6 = .ok (.aload_n 3, 1) := by decide +kernel
theorem dX11_refusalOfAnswers_7 : decode cX11_refusalOfAnswers 7 = .ok (.ifnonnull 5, 3) := by decide +kernel
theorem dX11_refusalOfAnswers_10 : decode cX11_refusalOfAnswers 10 = .ok (.iconst (-1), 1) := by decide +kernel
theorem dX11_refusalOfAnswers_11 : decode cX11_refusalOfAnswers 11 = .ok (.ireturn, 1) := by decide +kernel
theorem dX11_refusalOfAnswers_12 : decode cX11_refusalOfAnswers 12 = .ok (.aload_n 3, 1) := by decide +kernel
theorem dX11_refusalOfAnswers_13 : decode cX11_refusalOfAnswers 13 = .ok (.iconst 2, 1) := by decide +kernel
theorem dX11_refusalOfAnswers_14 : decode cX11_refusalOfAnswers 14 = .ok (.invokevirtual 63, 3) := by decide +kernel
theorem dX11_refusalOfAnswers_17 : decode cX11_refusalOfAnswers 17 = .ok (.istore 4, 2) := by decide +kernel
theorem dX11_refusalOfAnswers_19 : decode cX11_refusalOfAnswers 19 = .ok (.iload 4, 2) := by decide +kernel
theorem dX11_refusalOfAnswers_21 : decode cX11_refusalOfAnswers 21 = .ok (.ifCond .eq 6, 3) := by decide +kernel
theorem dX11_refusalOfAnswers_24 : decode cX11_refusalOfAnswers 24 = .ok (.iload 4, 2) := by decide +kernel
theorem dX11_refusalOfAnswers_26 : decode cX11_refusalOfAnswers 26 = .ok (.ireturn, 1) := by decide +kernel
theorem dX11_refusalOfAnswers_27 : decode cX11_refusalOfAnswers 27 = .ok (.aload_n 3, 1) := by decide +kernel
theorem dX11_refusalOfAnswers_28 : decode cX11_refusalOfAnswers 28 = .ok (.getfield 250, 3) := by decide +kernel
theorem dX11_refusalOfAnswers_31 : decode cX11_refusalOfAnswers 31 = .ok (.aload_n 0, 1) := by decide +kernel
theorem dX11_refusalOfAnswers_32 : decode cX11_refusalOfAnswers 32 = .ok (.getfield 179, 3) := by decide +kernel
theorem dX11_refusalOfAnswers_35 : decode cX11_refusalOfAnswers 35 = .ok (.if_icmp .eq 6, 3) := by decide +kernel
theorem dX11_refusalOfAnswers_38 : decode cX11_refusalOfAnswers 38 = .ok (.bipush (-13), 2) := by decide +kernel
theorem dX11_refusalOfAnswers_40 : decode cX11_refusalOfAnswers 40 = .ok (.ireturn, 1) := by decide +kernel
theorem dX11_refusalOfAnswers_41 : decode cX11_refusalOfAnswers 41 = .ok (.iconst 0, 1) := by decide +kernel
theorem dX11_refusalOfAnswers_42 : decode cX11_refusalOfAnswers 42 = .ok (.istore 5, 2) := by decide +kernel
theorem dX11_refusalOfAnswers_44 : decode cX11_refusalOfAnswers 44 = .ok (.iload 5, 2) := by decide +kernel
theorem dX11_refusalOfAnswers_46 : decode cX11_refusalOfAnswers 46 = .ok (.aload_n 0, 1) := by decide +kernel
theorem dX11_refusalOfAnswers_47 : decode cX11_refusalOfAnswers 47 = .ok (.getfield 179, 3) := by decide +kernel
theorem dX11_refusalOfAnswers_50 : decode cX11_refusalOfAnswers 50 = .ok (.if_icmp .ge 21, 3) := by decide +kernel
theorem dX11_refusalOfAnswers_53 : decode cX11_refusalOfAnswers 53 = .ok (.aload_n 2, 1) := by decide +kernel
theorem dX11_refusalOfAnswers_54 : decode cX11_refusalOfAnswers 54 = .ok (.iload 5, 2) := by decide +kernel
theorem dX11_refusalOfAnswers_56 : decode cX11_refusalOfAnswers 56 = .ok (.aload_n 3, 1) := by decide +kernel
theorem dX11_refusalOfAnswers_57 : decode cX11_refusalOfAnswers 57 = .ok (.iload 5, 2) := by decide +kernel
theorem dX11_refusalOfAnswers_59 : decode cX11_refusalOfAnswers 59 = .ok (.invokevirtual 253, 3) := by decide +kernel
theorem dX11_refusalOfAnswers_62 : decode cX11_refusalOfAnswers 62 = .ok (.invokestatic 116, 3) := by decide +kernel
theorem dX11_refusalOfAnswers_65 : decode cX11_refusalOfAnswers 65 = .ok (.iinc 5 1, 3) := by decide +kernel
theorem dX11_refusalOfAnswers_68 : decode cX11_refusalOfAnswers 68 = .ok (.goto (-24), 3) := by decide +kernel
theorem dX11_refusalOfAnswers_71 : decode cX11_refusalOfAnswers 71 = .ok (.iconst 0, 1) := by decide +kernel
theorem dX11_refusalOfAnswers_72 : decode cX11_refusalOfAnswers 72 = .ok (.ireturn, 1) := by decide +kernel
theorem dX11_refusalOfBoth_0 : decode cX11_refusalOfBoth 0 = .ok (.aload_n 0, 1) := by decide +kernel
theorem dX11_refusalOfBoth_1 : decode cX11_refusalOfBoth 1 = .ok (.iload_n 1, 1) := by decide +kernel
theorem dX11_refusalOfBoth_2 : decode cX11_refusalOfBoth 2 = .ok (.invokevirtual 176, 3) := by decide +kernel
theorem dX11_refusalOfBoth_5 : decode cX11_refusalOfBoth 5 = .ok (.istore_n 3, 1) := by decide +kernel
theorem dX11_refusalOfBoth_6 : decode cX11_refusalOfBoth 6 = .ok (.iload_n 3, 1) := by decide +kernel
theorem dX11_refusalOfBoth_7 : decode cX11_refusalOfBoth 7 = .ok (.ifCond .eq 7, 3) := by decide +kernel
theorem dX11_refusalOfBoth_10 : decode cX11_refusalOfBoth 10 = .ok (.iload_n 3, 1) := by decide +kernel
theorem dX11_refusalOfBoth_11 : decode cX11_refusalOfBoth 11 = .ok (.goto 12, 3) := by decide +kernel
theorem dX11_refusalOfBoth_14 : decode cX11_refusalOfBoth 14 = .ok (.aload_n 0, 1) := by decide +kernel
theorem dX11_refusalOfBoth_15 : decode cX11_refusalOfBoth 15 = .ok (.iload_n 2, 1) := by decide +kernel
theorem dX11_refusalOfBoth_16 : decode cX11_refusalOfBoth 16 = .ok (.aload_n 0, 1) := by decide +kernel
theorem dX11_refusalOfBoth_17 : decode cX11_refusalOfBoth 17 = .ok (.getfield 42, 3) := by decide +kernel
theorem dX11_refusalOfBoth_20 : decode cX11_refusalOfBoth 20 = .ok (.invokevirtual 237, 3) := by decide +kernel
theorem dX11_refusalOfBoth_23 : decode cX11_refusalOfBoth 23 = .ok (.ireturn, 1) := by decide +kernel
theorem dX11_slipsBy_0 : decode cX11_slipsBy 0 = .ok (.iconst 0, 1) := by decide +kernel
theorem dX11_slipsBy_1 : decode cX11_slipsBy 1 = .ok (.istore_n 2, 1) := by decide +kernel
theorem dX11_slipsBy_2 : decode cX11_slipsBy 2 = .ok (.iconst 0, 1) := by decide +kernel
theorem dX11_slipsBy_3 : decode cX11_slipsBy 3 = .ok (.istore_n 3, 1) := by decide +kernel
theorem dX11_slipsBy_4 : decode cX11_slipsBy 4 = .ok (.iload_n 3, 1) := by decide +kernel
theorem dX11_slipsBy_5 : decode cX11_slipsBy 5 = .ok (.aload_n 0, 1) := by decide +kernel
theorem dX11_slipsBy_6 : decode cX11_slipsBy 6 = .ok (.getfield 179, 3) := by decide +kernel
theorem dX11_slipsBy_9 : decode cX11_slipsBy 9 = .ok (.if_icmp .ge 39, 3) := by decide +kernel
theorem dX11_slipsBy_12 : decode cX11_slipsBy 12 = .ok (.aload_n 0, 1) := by decide +kernel
theorem dX11_slipsBy_13 : decode cX11_slipsBy 13 = .ok (.getfield 42, 3) := by decide +kernel
theorem dX11_slipsBy_16 : decode cX11_slipsBy 16 = .ok (.iload_n 3, 1) := by decide +kernel
theorem dX11_slipsBy_17 : decode cX11_slipsBy 17 = .ok (.invokestatic 102, 3) := by decide +kernel
theorem dX11_slipsBy_20 : decode cX11_slipsBy 20 = .ok (.istore 4, 2) := by decide +kernel
theorem dX11_slipsBy_22 : decode cX11_slipsBy 22 = .ok (.iload 4, 2) := by decide +kernel
theorem dX11_slipsBy_24 : decode cX11_slipsBy 24 = .ok (.iconst (-1), 1) := by decide +kernel
theorem dX11_slipsBy_25 : decode cX11_slipsBy 25 = .ok (.if_icmp .eq 17, 3) := by decide +kernel
theorem dX11_slipsBy_28 : decode cX11_slipsBy 28 = .ok (.iload 4, 2) := by decide +kernel
theorem dX11_slipsBy_30 : decode cX11_slipsBy 30 = .ok (.aload_n 0, 1) := by decide +kernel
theorem dX11_slipsBy_31 : decode cX11_slipsBy 31 = .ok (.iload_n 1, 1) := by decide +kernel
theorem dX11_slipsBy_32 : decode cX11_slipsBy 32 = .ok (.iload_n 3, 1) := by decide +kernel
theorem dX11_slipsBy_33 : decode cX11_slipsBy 33 = .ok (.invokevirtual 210, 3) := by decide +kernel
theorem dX11_slipsBy_36 : decode cX11_slipsBy 36 = .ok (.if_icmp .eq 6, 3) := by decide +kernel
theorem dX11_slipsBy_39 : decode cX11_slipsBy 39 = .ok (.iinc 2 1, 3) := by decide +kernel
theorem dX11_slipsBy_42 : decode cX11_slipsBy 42 = .ok (.iinc 3 1, 3) := by decide +kernel
theorem dX11_slipsBy_45 : decode cX11_slipsBy 45 = .ok (.goto (-41), 3) := by decide +kernel
theorem dX11_slipsBy_48 : decode cX11_slipsBy 48 = .ok (.iload_n 2, 1) := by decide +kernel
theorem dX11_slipsBy_49 : decode cX11_slipsBy 49 = .ok (.ireturn, 1) := by decide +kernel
theorem dX11_waysFitting_0 : decode cX11_waysFitting 0 = .ok (.iconst 0, 1) := by decide +kernel
theorem dX11_waysFitting_1 : decode cX11_waysFitting 1 = .ok (.istore_n 2, 1) := by decide +kernel
theorem dX11_waysFitting_2 : decode cX11_waysFitting 2 = .ok (.iconst 0, 1) := by decide +kernel
theorem dX11_waysFitting_3 : decode cX11_waysFitting 3 = .ok (.istore_n 3, 1) := by decide +kernel
theorem dX11_waysFitting_4 : decode cX11_waysFitting 4 = .ok (.iload_n 3, 1) := by decide +kernel
theorem dX11_waysFitting_5 : decode cX11_waysFitting 5 = .ok (.aload_n 0, 1) := by decide +kernel
theorem dX11_waysFitting_6 : decode cX11_waysFitting 6 = .ok (.getfield 10, 3) := by decide +kernel
theorem dX11_waysFitting_9 : decode cX11_waysFitting 9 = .ok (.getfield 164, 3) := by decide +kernel
theorem dX11_waysFitting_12 : decode cX11_waysFitting 12 = .ok (.if_icmp .ge 24, 3) := by decide +kernel
theorem dX11_waysFitting_15 : decode cX11_waysFitting 15 = .ok (.aload_n 0, 1) := by decide +kernel
theorem dX11_waysFitting_16 : decode cX11_waysFitting 16 = .ok (.iload_n 3, 1) := by decide +kernel
theorem dX11_waysFitting_17 : decode cX11_waysFitting 17 = .ok (.invokevirtual 155, 3) := by decide +kernel
theorem dX11_waysFitting_20 : decode cX11_waysFitting 20 = .ok (.iload_n 1, 1) := by decide +kernel
theorem dX11_waysFitting_21 : decode cX11_waysFitting 21 = .ok (.if_icmp .gt 9, 3) := by decide +kernel
theorem dX11_waysFitting_24 : decode cX11_waysFitting 24 = .ok (.iload_n 2, 1) := by decide +kernel
theorem dX11_waysFitting_25 : decode cX11_waysFitting 25 = .ok (.iconst 1, 1) := by decide +kernel
theorem dX11_waysFitting_26 : decode cX11_waysFitting 26 = .ok (.iload_n 3, 1) := by decide +kernel
theorem dX11_waysFitting_27 : decode cX11_waysFitting 27 = .ok (.ishl, 1) := by decide +kernel
theorem dX11_waysFitting_28 : decode cX11_waysFitting 28 = .ok (.ior, 1) := by decide +kernel
theorem dX11_waysFitting_29 : decode cX11_waysFitting 29 = .ok (.istore_n 2, 1) := by decide +kernel
theorem dX11_waysFitting_30 : decode cX11_waysFitting 30 = .ok (.iinc 3 1, 3) := by decide +kernel
theorem dX11_waysFitting_33 : decode cX11_waysFitting 33 = .ok (.goto (-29), 3) := by decide +kernel
theorem dX11_waysFitting_36 : decode cX11_waysFitting 36 = .ok (.iload_n 2, 1) := by decide +kernel
theorem dX11_waysFitting_37 : decode cX11_waysFitting 37 = .ok (.ireturn, 1) := by decide +kernel
theorem dX11_likeliest_0 : decode cX11_likeliest 0 = .ok (.bipush (-4), 2) := by decide +kernel
theorem dX11_likeliest_2 : decode cX11_likeliest 2 = .ok (.istore_n 1, 1) := by decide +kernel
theorem dX11_likeliest_3 : decode cX11_likeliest 3 = .ok (.bipush 13, 2) := by decide +kernel
theorem dX11_likeliest_5 : decode cX11_likeliest 5 = .ok (.istore_n 2, 1) := by decide +kernel
theorem dX11_likeliest_6 : decode cX11_likeliest 6 = .ok (.iconst 0, 1) := by decide +kernel
theorem dX11_likeliest_7 : decode cX11_likeliest 7 = .ok (.istore_n 3, 1) := by decide +kernel
theorem dX11_likeliest_8 : decode cX11_likeliest 8 = .ok (.iload_n 3, 1) := by decide +kernel
theorem dX11_likeliest_9 : decode cX11_likeliest 9 = .ok (.aload_n 0, 1) := by decide +kernel
theorem dX11_likeliest_10 : decode cX11_likeliest 10 = .ok (.getfield 10, 3) := by decide +kernel
theorem dX11_likeliest_13 : decode cX11_likeliest 13 = .ok (.getfield 164, 3) := by decide +kernel
theorem dX11_likeliest_16 : decode cX11_likeliest 16 = .ok (.if_icmp .ge 52, 3) := by decide +kernel
theorem dX11_likeliest_19 : decode cX11_likeliest 19 = .ok (.aload_n 0, 1) := by decide +kernel
theorem dX11_likeliest_20 : decode cX11_likeliest 20 = .ok (.iload_n 3, 1) := by decide +kernel
theorem dX11_likeliest_21 : decode cX11_likeliest 21 = .ok (.invokevirtual 155, 3) := by decide +kernel
theorem dX11_likeliest_24 : decode cX11_likeliest 24 = .ok (.istore 4, 2) := by decide +kernel
theorem dX11_likeliest_26 : decode cX11_likeliest 26 = .ok (.iload 4, 2) := by decide +kernel
theorem dX11_likeliest_28 : decode cX11_likeliest 28 = .ok (.iload_n 2, 1) := by decide +kernel
theorem dX11_likeliest_29 : decode cX11_likeliest 29 = .ok (.if_icmp .lt 28, 3) := by decide +kernel
theorem dX11_likeliest_32 : decode cX11_likeliest 32 = .ok (.iload 4, 2) := by decide +kernel
theorem dX11_likeliest_34 : decode cX11_likeliest 34 = .ok (.iload_n 2, 1) := by decide +kernel
theorem dX11_likeliest_35 : decode cX11_likeliest 35 = .ok (.if_icmp .ne 27, 3) := by decide +kernel
theorem dX11_likeliest_38 : decode cX11_likeliest 38 = .ok (.aload_n 0, 1) := by decide +kernel
theorem dX11_likeliest_39 : decode cX11_likeliest 39 = .ok (.getfield 10, 3) := by decide +kernel
theorem dX11_likeliest_42 : decode cX11_likeliest 42 = .ok (.iload_n 3, 1) := by decide +kernel
theorem dX11_likeliest_43 : decode cX11_likeliest 43 = .ok (.invokevirtual 337, 3) := by decide +kernel
theorem dX11_likeliest_46 : decode cX11_likeliest 46 = .ok (.aload_n 0, 1) := by decide +kernel
theorem dX11_likeliest_47 : decode cX11_likeliest 47 = .ok (.getfield 10, 3) := by decide +kernel
theorem dX11_likeliest_50 : decode cX11_likeliest 50 = .ok (.iload_n 1, 1) := by decide +kernel
theorem dX11_likeliest_51 : decode cX11_likeliest 51 = .ok (.invokevirtual 337, 3) := by decide +kernel
theorem dX11_likeliest_54 : decode cX11_likeliest 54 = .ok (.if_icmp .le 8, 3) := by decide +kernel
theorem dX11_likeliest_57 : decode cX11_likeliest 57 = .ok (.iload 4, 2) := by decide +kernel
theorem dX11_likeliest_59 : decode cX11_likeliest 59 = .ok (.istore_n 2, 1) := by decide +kernel
theorem dX11_likeliest_60 : decode cX11_likeliest 60 = .ok (.iload_n 3, 1) := by decide +kernel
theorem dX11_likeliest_61 : decode cX11_likeliest 61 = .ok (.istore_n 1, 1) := by decide +kernel
theorem dX11_likeliest_62 : decode cX11_likeliest 62 = .ok (.iinc 3 1, 3) := by decide +kernel
theorem dX11_likeliest_65 : decode cX11_likeliest 65 = .ok (.goto (-57), 3) := by decide +kernel
theorem dX11_likeliest_68 : decode cX11_likeliest 68 = .ok (.iload_n 1, 1) := by decide +kernel
theorem dX11_likeliest_69 : decode cX11_likeliest 69 = .ok (.ireturn, 1) := by decide +kernel
theorem dX11_chance_0 : decode cX11_chance 0 = .ok (.aload_n 0, 1) := by decide +kernel
theorem dX11_chance_1 : decode cX11_chance 1 = .ok (.getfield 10, 3) := by decide +kernel
theorem dX11_chance_4 : decode cX11_chance 4 = .ok (.iload_n 1, 1) := by decide +kernel
theorem dX11_chance_5 : decode cX11_chance 5 = .ok (.invokevirtual 337, 3) := by decide +kernel
theorem dX11_chance_8 : decode cX11_chance 8 = .ok (.bipush 12, 2) := by decide +kernel
theorem dX11_chance_10 : decode cX11_chance 10 = .ok (.aload_n 0, 1) := by decide +kernel
theorem dX11_chance_11 : decode cX11_chance 11 = .ok (.iload_n 1, 1) := by decide +kernel
theorem dX11_chance_12 : decode cX11_chance 12 = .ok (.invokevirtual 155, 3) := by decide +kernel
theorem dX11_chance_15 : decode cX11_chance 15 = .ok (.isub, 1) := by decide +kernel
theorem dX11_chance_16 : decode cX11_chance 16 = .ok (.ishl, 1) := by decide +kernel
theorem dX11_chance_17 : decode cX11_chance 17 = .ok (.ireturn, 1) := by decide +kernel
theorem dX11_weightOfAll_0 : decode cX11_weightOfAll 0 = .ok (.iconst 0, 1) := by decide +kernel
theorem dX11_weightOfAll_1 : decode cX11_weightOfAll 1 = .ok (.istore_n 2, 1) := by decide +kernel
theorem dX11_weightOfAll_2 : decode cX11_weightOfAll 2 = .ok (.iconst 0, 1) := by decide +kernel
theorem dX11_weightOfAll_3 : decode cX11_weightOfAll 3 = .ok (.istore_n 3, 1) := by decide +kernel
theorem dX11_weightOfAll_4 : decode cX11_weightOfAll 4 = .ok (.iload_n 3, 1) := by decide +kernel
theorem dX11_weightOfAll_5 : decode cX11_weightOfAll 5 = .ok (.aload_n 0, 1) := by decide +kernel
theorem dX11_weightOfAll_6 : decode cX11_weightOfAll 6 = .ok (.getfield 10, 3) := by decide +kernel
theorem dX11_weightOfAll_9 : decode cX11_weightOfAll 9 = .ok (.getfield 164, 3) := by decide +kernel
theorem dX11_weightOfAll_12 : decode cX11_weightOfAll 12 = .ok (.if_icmp .ge 28, 3) := by decide +kernel
theorem dX11_weightOfAll_15 : decode cX11_weightOfAll 15 = .ok (.iload_n 1, 1) := by decide +kernel
theorem dX11_weightOfAll_16 : decode cX11_weightOfAll 16 = .ok (.iload_n 3, 1) := by decide +kernel
theorem dX11_weightOfAll_17 : decode cX11_weightOfAll 17 = .ok (.invokestatic 331, 3) := by decide +kernel
theorem dX11_weightOfAll_20 : decode cX11_weightOfAll 20 = .ok (.ifCond .eq 14, 3) := by decide +kernel
theorem dX11_weightOfAll_23 : decode cX11_weightOfAll 23 = .ok (.iload_n 2, 1) := by decide +kernel
theorem dX11_weightOfAll_24 : decode cX11_weightOfAll 24 = .ok (.aload_n 0, 1) := by decide +kernel
theorem dX11_weightOfAll_25 : decode cX11_weightOfAll 25 = .ok (.getfield 10, 3) := by decide +kernel
theorem dX11_weightOfAll_28 : decode cX11_weightOfAll 28 = .ok (.iload_n 3, 1) := by decide +kernel
theorem dX11_weightOfAll_29 : decode cX11_weightOfAll 29 = .ok (.invokevirtual 337, 3) := by decide +kernel
theorem dX11_weightOfAll_32 : decode cX11_weightOfAll 32 = .ok (.iadd, 1) := by decide +kernel
theorem dX11_weightOfAll_33 : decode cX11_weightOfAll 33 = .ok (.istore_n 2, 1) := by decide +kernel
theorem dX11_weightOfAll_34 : decode cX11_weightOfAll 34 = .ok (.iinc 3 1, 3) := by decide +kernel
theorem dX11_weightOfAll_37 : decode cX11_weightOfAll 37 = .ok (.goto (-33), 3) := by decide +kernel
theorem dX11_weightOfAll_40 : decode cX11_weightOfAll 40 = .ok (.iload_n 2, 1) := by decide +kernel
theorem dX11_weightOfAll_41 : decode cX11_weightOfAll 41 = .ok (.ireturn, 1) := by decide +kernel
theorem dX11_inLeastTerms_0 : decode cX11_inLeastTerms 0 = .ok (.iload_n 0, 1) := by decide +kernel
theorem dX11_inLeastTerms_1 : decode cX11_inLeastTerms 1 = .ok (.iload_n 1, 1) := by decide +kernel
theorem dX11_inLeastTerms_2 : decode cX11_inLeastTerms 2 = .ok (.invokestatic 340, 3) := by decide +kernel
theorem dX11_inLeastTerms_5 : decode cX11_inLeastTerms 5 = .ok (.istore_n 3, 1) := by decide +kernel
theorem dX11_inLeastTerms_6 : decode cX11_inLeastTerms 6 = .ok (.iload_n 3, 1) := by decide +kernel
theorem dX11_inLeastTerms_7 : decode cX11_inLeastTerms 7 = .ok (.ifCond .ne 5, 3) := by decide +kernel
theorem dX11_inLeastTerms_10 : decode cX11_inLeastTerms 10 = .ok (.iconst 0, 1) := by decide +kernel
theorem dX11_inLeastTerms_11 : decode cX11_inLeastTerms 11 = .ok (.ireturn, 1) := by decide +kernel
theorem dX11_inLeastTerms_12 : decode cX11_inLeastTerms 12 = .ok (.iload_n 2, 1) := by decide +kernel
theorem dX11_inLeastTerms_13 : decode cX11_inLeastTerms 13 = .ok (.ifCond .ne 7, 3) := by decide +kernel
theorem dX11_inLeastTerms_16 : decode cX11_inLeastTerms 16 = .ok (.iload_n 0, 1) := by decide +kernel
theorem dX11_inLeastTerms_17 : decode cX11_inLeastTerms 17 = .ok (.goto 4, 3) := by decide +kernel
theorem dX11_inLeastTerms_20 : decode cX11_inLeastTerms 20 = .ok (.iload_n 1, 1) := by decide +kernel
theorem dX11_inLeastTerms_21 : decode cX11_inLeastTerms 21 = .ok (.iload_n 3, 1) := by decide +kernel
theorem dX11_inLeastTerms_22 : decode cX11_inLeastTerms 22 = .ok (.idiv, 1) := by decide +kernel
theorem dX11_inLeastTerms_23 : decode cX11_inLeastTerms 23 = .ok (.ireturn, 1) := by decide +kernel
theorem dX11_greatestDivisor_0 : decode cX11_greatestDivisor 0 = .ok (.iload_n 0, 1) := by decide +kernel
theorem dX11_greatestDivisor_1 : decode cX11_greatestDivisor 1 = .ok (.istore_n 2, 1) := by decide +kernel
theorem dX11_greatestDivisor_2 : decode cX11_greatestDivisor 2 = .ok (.iload_n 1, 1) := by decide +kernel
theorem dX11_greatestDivisor_3 : decode cX11_greatestDivisor 3 = .ok (.istore_n 3, 1) := by decide +kernel
theorem dX11_greatestDivisor_4 : decode cX11_greatestDivisor 4 = .ok (.iconst 0, 1) := by decide +kernel
theorem dX11_greatestDivisor_5 : decode cX11_greatestDivisor 5 = .ok (.istore 4, 2) := by decide +kernel
theorem dX11_greatestDivisor_7 : decode cX11_greatestDivisor 7 = .ok (.iload 4, 2) := by decide +kernel
theorem dX11_greatestDivisor_9 : decode cX11_greatestDivisor 9 = .ok (.bipush 64, 2) := by decide +kernel
theorem dX11_greatestDivisor_11 : decode cX11_greatestDivisor 11 = .ok (.if_icmp .ge 23, 3) := by decide +kernel
theorem dX11_greatestDivisor_14 : decode cX11_greatestDivisor 14 = .ok (.iload_n 3, 1) := by decide +kernel
theorem dX11_greatestDivisor_15 : decode cX11_greatestDivisor 15 = .ok (.ifCond .eq 19, 3) := by decide +kernel
theorem dX11_greatestDivisor_18 : decode cX11_greatestDivisor 18 = .ok (.iload_n 2, 1) := by decide +kernel
theorem dX11_greatestDivisor_19 : decode cX11_greatestDivisor 19 = .ok (.iload_n 3, 1) := by decide +kernel
theorem dX11_greatestDivisor_20 : decode cX11_greatestDivisor 20 = .ok (.irem, 1) := by decide +kernel
theorem dX11_greatestDivisor_21 : decode cX11_greatestDivisor 21 = .ok (.istore 5, 2) := by decide +kernel
theorem dX11_greatestDivisor_23 : decode cX11_greatestDivisor 23 = .ok (.iload_n 3, 1) := by decide +kernel
theorem dX11_greatestDivisor_24 : decode cX11_greatestDivisor 24 = .ok (.istore_n 2, 1) := by decide +kernel
theorem dX11_greatestDivisor_25 : decode cX11_greatestDivisor 25 = .ok (.iload 5, 2) := by decide +kernel
theorem dX11_greatestDivisor_27 : decode cX11_greatestDivisor 27 = .ok (.istore_n 3, 1) := by decide +kernel
theorem dX11_greatestDivisor_28 : decode cX11_greatestDivisor 28 = .ok (.iinc 4 1, 3) := by decide +kernel
theorem dX11_greatestDivisor_31 : decode cX11_greatestDivisor 31 = .ok (.goto (-24), 3) := by decide +kernel
theorem dX11_greatestDivisor_34 : decode cX11_greatestDivisor 34 = .ok (.iload_n 2, 1) := by decide +kernel
theorem dX11_greatestDivisor_35 : decode cX11_greatestDivisor 35 = .ok (.ireturn, 1) := by decide +kernel
theorem dX11_partPairs_0 : decode cX11_partPairs 0 = .ok (.lconst 0, 1) := by decide +kernel
theorem dX11_partPairs_1 : decode cX11_partPairs 1 = .ok (.lstore_n 2, 1) := by decide +kernel
theorem dX11_partPairs_2 : decode cX11_partPairs 2 = .ok (.iconst 0, 1) := by decide +kernel
theorem dX11_partPairs_3 : decode cX11_partPairs 3 = .ok (.istore 4, 2) := by decide +kernel
theorem dX11_partPairs_5 : decode cX11_partPairs 5 = .ok (.iload 4, 2) := by decide +kernel
theorem dX11_partPairs_7 : decode cX11_partPairs 7 = .ok (.aload_n 0, 1) := by decide +kernel
theorem dX11_partPairs_8 : decode cX11_partPairs 8 = .ok (.getfield 179, 3) := by decide +kernel
theorem dX11_partPairs_11 : decode cX11_partPairs 11 = .ok (.if_icmp .ge 71, 3) := by decide +kernel
theorem dX11_partPairs_14 : decode cX11_partPairs 14 = .ok (.iload 4, 2) := by decide +kernel
theorem dX11_partPairs_16 : decode cX11_partPairs 16 = .ok (.bipush 12, 2) := by decide +kernel
theorem dX11_partPairs_18 : decode cX11_partPairs 18 = .ok (.if_icmp .ge 64, 3) := by decide +kernel
theorem dX11_partPairs_21 : decode cX11_partPairs 21 = .ok (.iconst 0, 1) := by decide +kernel
theorem dX11_partPairs_22 : decode cX11_partPairs 22 = .ok (.istore 5, 2) := by decide +kernel
theorem dX11_partPairs_24 : decode cX11_partPairs 24 = .ok (.iload 5, 2) := by decide +kernel
theorem dX11_partPairs_26 : decode cX11_partPairs 26 = .ok (.bipush 10, 2) := by decide +kernel
theorem dX11_partPairs_28 : decode cX11_partPairs 28 = .ok (.if_icmp .ge 26, 3) := by decide +kernel
theorem dX11_partPairs_31 : decode cX11_partPairs 31 = .ok (.aload_n 0, 1) := by decide +kernel
theorem dX11_partPairs_32 : decode cX11_partPairs 32 = .ok (.getfield 48, 3) := by decide +kernel
theorem dX11_partPairs_35 : decode cX11_partPairs 35 = .ok (.iload 5, 2) := by decide +kernel
theorem dX11_partPairs_37 : decode cX11_partPairs 37 = .ok (.aload_n 0, 1) := by decide +kernel
theorem dX11_partPairs_38 : decode cX11_partPairs 38 = .ok (.iload 5, 2) := by decide +kernel
theorem dX11_partPairs_40 : decode cX11_partPairs 40 = .ok (.iload 4, 2) := by decide +kernel
theorem dX11_partPairs_42 : decode cX11_partPairs 42 = .ok (.invokevirtual 210, 3) := by decide +kernel
theorem dX11_partPairs_45 : decode cX11_partPairs 45 = .ok (.invokestatic 116, 3) := by decide +kernel
theorem dX11_partPairs_48 : decode cX11_partPairs 48 = .ok (.iinc 5 1, 3) := by decide +kernel
theorem dX11_partPairs_51 : decode cX11_partPairs 51 = .ok (.goto (-27), 3) := by decide +kernel
theorem dX11_partPairs_54 : decode cX11_partPairs 54 = .ok (.aload_n 0, 1) := by decide +kernel
theorem dX11_partPairs_55 : decode cX11_partPairs 55 = .ok (.getfield 51, 3) := by decide +kernel
theorem dX11_partPairs_58 : decode cX11_partPairs 58 = .ok (.iload 4, 2) := by decide +kernel
theorem dX11_partPairs_60 : decode cX11_partPairs 60 = .ok (.aload_n 0, 1) := by decide +kernel
theorem dX11_partPairs_61 : decode cX11_partPairs 61 = .ok (.iload_n 1, 1) := by decide +kernel
theorem dX11_partPairs_62 : decode cX11_partPairs 62 = .ok (.invokevirtual 343, 3) := by decide +kernel
theorem dX11_partPairs_65 : decode cX11_partPairs 65 = .ok (.lastore, 1) := by decide +kernel
theorem dX11_partPairs_66 : decode cX11_partPairs 66 = .ok (.lload_n 2, 1) := by decide +kernel
theorem dX11_partPairs_67 : decode cX11_partPairs 67 = .ok (.aload_n 0, 1) := by decide +kernel
theorem dX11_partPairs_68 : decode cX11_partPairs 68 = .ok (.getfield 51, 3) := by decide +kernel
theorem dX11_partPairs_71 : decode cX11_partPairs 71 = .ok (.iload 4, 2) := by decide +kernel
theorem dX11_partPairs_73 : decode cX11_partPairs 73 = .ok (.laload, 1) := by decide +kernel
theorem dX11_partPairs_74 : decode cX11_partPairs 74 = .ok (.lor, 1) := by decide +kernel
theorem dX11_partPairs_75 : decode cX11_partPairs 75 = .ok (.lstore_n 2, 1) := by decide +kernel
theorem dX11_partPairs_76 : decode cX11_partPairs 76 = .ok (.iinc 4 1, 3) := by decide +kernel
theorem dX11_partPairs_79 : decode cX11_partPairs 79 = .ok (.goto (-74), 3) := by decide +kernel
theorem dX11_partPairs_82 : decode cX11_partPairs 82 = .ok (.lload_n 2, 1) := by decide +kernel
theorem dX11_partPairs_83 : decode cX11_partPairs 83 = .ok (.lreturn, 1) := by decide +kernel
theorem dX11_pairsUnlike_0 : decode cX11_pairsUnlike 0 = .ok (.lconst 0, 1) := by decide +kernel
theorem dX11_pairsUnlike_1 : decode cX11_pairsUnlike 1 = .ok (.lstore_n 2, 1) := by decide +kernel
theorem dX11_pairsUnlike_2 : decode cX11_pairsUnlike 2 = .ok (.iconst 0, 1) := by decide +kernel
theorem dX11_pairsUnlike_3 : decode cX11_pairsUnlike 3 = .ok (.istore 4, 2) := by decide +kernel
theorem dX11_pairsUnlike_5 : decode cX11_pairsUnlike 5 = .ok (.iconst 0, 1) := by decide +kernel
theorem dX11_pairsUnlike_6 : decode cX11_pairsUnlike 6 = .ok (.istore 5, 2) := by decide +kernel
theorem dX11_pairsUnlike_8 : decode cX11_pairsUnlike 8 = .ok (.iload 5, 2) := by decide +kernel
theorem dX11_pairsUnlike_10 : decode cX11_pairsUnlike 10 = .ok (.bipush 10, 2) := by decide +kernel
theorem dX11_pairsUnlike_12 : decode cX11_pairsUnlike 12 = .ok (.if_icmp .ge 77, 3) := by decide +kernel
theorem dX11_pairsUnlike_15 : decode cX11_pairsUnlike 15 = .ok (.iload 5, 2) := by decide +kernel
theorem dX11_pairsUnlike_17 : decode cX11_pairsUnlike 17 = .ok (.iconst 1, 1) := by decide +kernel
theorem dX11_pairsUnlike_18 : decode cX11_pairsUnlike 18 = .ok (.iadd, 1) := by decide +kernel
theorem dX11_pairsUnlike_19 : decode cX11_pairsUnlike 19 = .ok (.istore 6, 2) := by decide +kernel
theorem dX11_pairsUnlike_21 : decode cX11_pairsUnlike 21 = .ok (.iload 6, 2) := by decide +kernel
theorem dX11_pairsUnlike_23 : decode cX11_pairsUnlike 23 = .ok (.bipush 10, 2) := by decide +kernel
theorem dX11_pairsUnlike_25 : decode cX11_pairsUnlike 25 = .ok (.if_icmp .ge 58, 3) := by decide +kernel
theorem dX11_pairsUnlike_28 : decode cX11_pairsUnlike 28 = .ok (.iload_n 1, 1) := by decide +kernel
theorem dX11_pairsUnlike_29 : decode cX11_pairsUnlike 29 = .ok (.iload 5, 2) := by decide +kernel
theorem dX11_pairsUnlike_31 : decode cX11_pairsUnlike 31 = .ok (.invokestatic 331, 3) := by decide +kernel
theorem dX11_pairsUnlike_34 : decode cX11_pairsUnlike 34 = .ok (.ifCond .eq 40, 3) := by decide +kernel
theorem dX11_pairsUnlike_37 : decode cX11_pairsUnlike 37 = .ok (.iload_n 1, 1) := by decide +kernel
theorem dX11_pairsUnlike_38 : decode cX11_pairsUnlike 38 = .ok (.iload 6, 2) := by decide +kernel
theorem dX11_pairsUnlike_40 : decode cX11_pairsUnlike 40 = .ok (.invokestatic 331, 3) := by decide +kernel
theorem dX11_pairsUnlike_43 : decode cX11_pairsUnlike 43 = .ok (.ifCond .eq 31, 3) := by decide +kernel
theorem dX11_pairsUnlike_46 : decode cX11_pairsUnlike 46 = .ok (.aload_n 0, 1) := by decide +kernel
theorem dX11_pairsUnlike_47 : decode cX11_pairsUnlike 47 = .ok (.getfield 48, 3) := by decide +kernel
theorem dX11_pairsUnlike_50 : decode cX11_pairsUnlike 50 = .ok (.iload 5, 2) := by decide +kernel
theorem dX11_pairsUnlike_52 : decode cX11_pairsUnlike 52 = .ok (.invokestatic 102, 3) := by decide +kernel
theorem dX11_pairsUnlike_55 : decode cX11_pairsUnlike 55 = .ok (.aload_n 0, 1) := by decide +kernel
theorem dX11_pairsUnlike_56 : decode cX11_pairsUnlike 56 = .ok (.getfield 48, 3) := by decide +kernel
theorem dX11_pairsUnlike_59 : decode cX11_pairsUnlike 59 = .ok (.iload 6, 2) := by decide +kernel
theorem dX11_pairsUnlike_61 : decode cX11_pairsUnlike 61 = .ok (.invokestatic 102, 3) := by decide +kernel
theorem dX11_pairsUnlike_64 : decode cX11_pairsUnlike 64 = .ok (.if_icmp .eq 10, 3) := by decide +kernel
theorem dX11_pairsUnlike_67 : decode cX11_pairsUnlike 67 = .ok (.lload_n 2, 1) := by decide +kernel
theorem dX11_pairsUnlike_68 : decode cX11_pairsUnlike 68 = .ok (.lconst 1, 1) := by decide +kernel
theorem dX11_pairsUnlike_69 : decode cX11_pairsUnlike 69 = .ok (.iload 4, 2) := by decide +kernel
theorem dX11_pairsUnlike_71 : decode cX11_pairsUnlike 71 = .ok (.lshl, 1) := by decide +kernel
theorem dX11_pairsUnlike_72 : decode cX11_pairsUnlike 72 = .ok (.lor, 1) := by decide +kernel
theorem dX11_pairsUnlike_73 : decode cX11_pairsUnlike 73 = .ok (.lstore_n 2, 1) := by decide +kernel
theorem dX11_pairsUnlike_74 : decode cX11_pairsUnlike 74 = .ok (.iinc 4 1, 3) := by decide +kernel
theorem dX11_pairsUnlike_77 : decode cX11_pairsUnlike 77 = .ok (.iinc 6 1, 3) := by decide +kernel
theorem dX11_pairsUnlike_80 : decode cX11_pairsUnlike 80 = .ok (.goto (-59), 3) := by decide +kernel
theorem dX11_pairsUnlike_83 : decode cX11_pairsUnlike 83 = .ok (.iinc 5 1, 3) := by decide +kernel
theorem dX11_pairsUnlike_86 : decode cX11_pairsUnlike 86 = .ok (.goto (-78), 3) := by decide +kernel
theorem dX11_pairsUnlike_89 : decode cX11_pairsUnlike 89 = .ok (.lload_n 2, 1) := by decide +kernel
theorem dX11_pairsUnlike_90 : decode cX11_pairsUnlike 90 = .ok (.lreturn, 1) := by decide +kernel
theorem dX11_fewestParting_0 : decode cX11_fewestParting 0 = .ok (.iconst 0, 1) := by decide +kernel
theorem dX11_fewestParting_1 : decode cX11_fewestParting 1 = .ok (.istore_n 3, 1) := by decide +kernel
theorem dX11_fewestParting_2 : decode cX11_fewestParting 2 = .ok (.bipush 13, 2) := by decide +kernel
theorem dX11_fewestParting_4 : decode cX11_fewestParting 4 = .ok (.istore 4, 2) := by decide +kernel
theorem dX11_fewestParting_6 : decode cX11_fewestParting 6 = .ok (.iconst 0, 1) := by decide +kernel
theorem dX11_fewestParting_7 : decode cX11_fewestParting 7 = .ok (.istore 5, 2) := by decide +kernel
theorem dX11_fewestParting_9 : decode cX11_fewestParting 9 = .ok (.iload 5, 2) := by decide +kernel
theorem dX11_fewestParting_11 : decode cX11_fewestParting 11 = .ok (.sipush 1024, 3) := by decide +kernel
theorem dX11_fewestParting_14 : decode cX11_fewestParting 14 = .ok (.if_icmp .ge 50, 3) := by decide +kernel
theorem dX11_fewestParting_17 : decode cX11_fewestParting 17 = .ok (.iload 5, 2) := by decide +kernel
theorem dX11_fewestParting_19 : decode cX11_fewestParting 19 = .ok (.aload_n 0, 1) := by decide +kernel
theorem dX11_fewestParting_20 : decode cX11_fewestParting 20 = .ok (.getfield 179, 3) := by decide +kernel
theorem dX11_fewestParting_23 : decode cX11_fewestParting 23 = .ok (.ishr, 1) := by decide +kernel
theorem dX11_fewestParting_24 : decode cX11_fewestParting 24 = .ok (.ifCond .ne 40, 3) := by decide +kernel
theorem dX11_fewestParting_27 : decode cX11_fewestParting 27 = .ok (.iload 5, 2) := by decide +kernel
theorem dX11_fewestParting_29 : decode cX11_fewestParting 29 = .ok (.invokestatic 190, 3) := by decide +kernel
theorem dX11_fewestParting_32 : decode cX11_fewestParting 32 = .ok (.iload 4, 2) := by decide +kernel
theorem dX11_fewestParting_34 : decode cX11_fewestParting 34 = .ok (.if_icmp .ge 24, 3) := by decide +kernel
theorem dX11_fewestParting_37 : decode cX11_fewestParting 37 = .ok (.aload_n 0, 1) := by decide +kernel
theorem dX11_fewestParting_38 : decode cX11_fewestParting 38 = .ok (.iload 5, 2) := by decide +kernel
theorem dX11_fewestParting_40 : decode cX11_fewestParting 40 = .ok (.invokevirtual 346, 3) := by decide +kernel
theorem dX11_fewestParting_43 : decode cX11_fewestParting 43 = .ok (.lload_n 1, 1) := by decide +kernel
theorem dX11_fewestParting_44 : decode cX11_fewestParting 44 = .ok (.lcmp, 1) := by decide +kernel
theorem dX11_fewestParting_45 : decode cX11_fewestParting 45 = .ok (.ifCond .ne 13, 3) := by decide +kernel
theorem dX11_fewestParting_48 : decode cX11_fewestParting 48 = .ok (.iload 5, 2) := by decide +kernel
theorem dX11_fewestParting_50 : decode cX11_fewestParting 50 = .ok (.invokestatic 190, 3) := by decide +kernel
theorem dX11_fewestParting_53 : decode cX11_fewestParting 53 = .ok (.istore 4, 2) := by decide +kernel
theorem dX11_fewestParting_55 : decode cX11_fewestParting 55 = .ok (.iload 5, 2) := by decide +kernel
theorem dX11_fewestParting_57 : decode cX11_fewestParting 57 = .ok (.istore_n 3, 1) := by decide +kernel
theorem dX11_fewestParting_58 : decode cX11_fewestParting 58 = .ok (.iinc 5 1, 3) := by decide +kernel
theorem dX11_fewestParting_61 : decode cX11_fewestParting 61 = .ok (.goto (-52), 3) := by decide +kernel
theorem dX11_fewestParting_64 : decode cX11_fewestParting 64 = .ok (.iload_n 3, 1) := by decide +kernel
theorem dX11_fewestParting_65 : decode cX11_fewestParting 65 = .ok (.ireturn, 1) := by decide +kernel
theorem dX11_pairsPartedBy_0 : decode cX11_pairsPartedBy 0 = .ok (.lconst 0, 1) := by decide +kernel
theorem dX11_pairsPartedBy_1 : decode cX11_pairsPartedBy 1 = .ok (.lstore_n 2, 1) := by decide +kernel
theorem dX11_pairsPartedBy_2 : decode cX11_pairsPartedBy 2 = .ok (.iconst 0, 1) := by decide +kernel
theorem dX11_pairsPartedBy_3 : decode cX11_pairsPartedBy 3 = .ok (.istore 4, 2) := by decide +kernel
theorem dX11_pairsPartedBy_5 : decode cX11_pairsPartedBy 5 = .ok (.iload 4, 2) := by decide +kernel
theorem dX11_pairsPartedBy_7 : decode cX11_pairsPartedBy 7 = .ok (.bipush 12, 2) := by decide +kernel
theorem dX11_pairsPartedBy_9 : decode cX11_pairsPartedBy 9 = .ok (.if_icmp .ge 28, 3) := by decide +kernel
theorem dX11_pairsPartedBy_12 : decode cX11_pairsPartedBy 12 = .ok (.iload_n 1, 1) := by decide +kernel
theorem dX11_pairsPartedBy_13 : decode cX11_pairsPartedBy 13 = .ok (.iload 4, 2) := by decide +kernel
theorem dX11_pairsPartedBy_15 : decode cX11_pairsPartedBy 15 = .ok (.invokestatic 331, 3) := by decide +kernel
theorem dX11_pairsPartedBy_18 : decode cX11_pairsPartedBy 18 = .ok (.ifCond .eq 13, 3) := by decide +kernel
theorem dX11_pairsPartedBy_21 : decode cX11_pairsPartedBy 21 = .ok (.lload_n 2, 1) := by decide +kernel
theorem dX11_pairsPartedBy_22 : decode cX11_pairsPartedBy 22 = .ok (.aload_n 0, 1) := by decide +kernel
theorem dX11_pairsPartedBy_23 : decode cX11_pairsPartedBy 23 = .ok (.getfield 51, 3) := by decide +kernel
theorem dX11_pairsPartedBy_26 : decode cX11_pairsPartedBy 26 = .ok (.iload 4, 2) := by decide +kernel
theorem dX11_pairsPartedBy_28 : decode cX11_pairsPartedBy 28 = .ok (.laload, 1) := by decide +kernel
theorem dX11_pairsPartedBy_29 : decode cX11_pairsPartedBy 29 = .ok (.lor, 1) := by decide +kernel
theorem dX11_pairsPartedBy_30 : decode cX11_pairsPartedBy 30 = .ok (.lstore_n 2, 1) := by decide +kernel
theorem dX11_pairsPartedBy_31 : decode cX11_pairsPartedBy 31 = .ok (.iinc 4 1, 3) := by decide +kernel
theorem dX11_pairsPartedBy_34 : decode cX11_pairsPartedBy 34 = .ok (.goto (-29), 3) := by decide +kernel
theorem dX11_pairsPartedBy_37 : decode cX11_pairsPartedBy 37 = .ok (.lload_n 2, 1) := by decide +kernel
theorem dX11_pairsPartedBy_38 : decode cX11_pairsPartedBy 38 = .ok (.lreturn, 1) := by decide +kernel
theorem dX11_marksBy_0 : decode cX11_marksBy 0 = .ok (.iconst 0, 1) := by decide +kernel
theorem dX11_marksBy_1 : decode cX11_marksBy 1 = .ok (.istore_n 3, 1) := by decide +kernel
theorem dX11_marksBy_2 : decode cX11_marksBy 2 = .ok (.iconst 0, 1) := by decide +kernel
theorem dX11_marksBy_3 : decode cX11_marksBy 3 = .ok (.istore 4, 2) := by decide +kernel
theorem dX11_marksBy_5 : decode cX11_marksBy 5 = .ok (.iload 4, 2) := by decide +kernel
theorem dX11_marksBy_7 : decode cX11_marksBy 7 = .ok (.aload_n 0, 1) := by decide +kernel
theorem dX11_marksBy_8 : decode cX11_marksBy 8 = .ok (.getfield 179, 3) := by decide +kernel
theorem dX11_marksBy_11 : decode cX11_marksBy 11 = .ok (.if_icmp .ge 67, 3) := by decide +kernel
theorem dX11_marksBy_14 : decode cX11_marksBy 14 = .ok (.aload_n 0, 1) := by decide +kernel
theorem dX11_marksBy_15 : decode cX11_marksBy 15 = .ok (.iload_n 1, 1) := by decide +kernel
theorem dX11_marksBy_16 : decode cX11_marksBy 16 = .ok (.iload 4, 2) := by decide +kernel
theorem dX11_marksBy_18 : decode cX11_marksBy 18 = .ok (.invokevirtual 210, 3) := by decide +kernel
theorem dX11_marksBy_21 : decode cX11_marksBy 21 = .ok (.aload_n 0, 1) := by decide +kernel
theorem dX11_marksBy_22 : decode cX11_marksBy 22 = .ok (.getfield 35, 3) := by decide +kernel
theorem dX11_marksBy_25 : decode cX11_marksBy 25 = .ok (.iload 4, 2) := by decide +kernel
theorem dX11_marksBy_27 : decode cX11_marksBy 27 = .ok (.invokestatic 102, 3) := by decide +kernel
theorem dX11_marksBy_30 : decode cX11_marksBy 30 = .ok (.aload_n 0, 1) := by decide +kernel
theorem dX11_marksBy_31 : decode cX11_marksBy 31 = .ok (.getfield 39, 3) := by decide +kernel
theorem dX11_marksBy_34 : decode cX11_marksBy 34 = .ok (.iload 4, 2) := by decide +kernel
theorem dX11_marksBy_36 : decode cX11_marksBy 36 = .ok (.invokestatic 102, 3) := by decide +kernel
theorem dX11_marksBy_39 : decode cX11_marksBy 39 = .ok (.isub, 1) := by decide +kernel
theorem dX11_marksBy_40 : decode cX11_marksBy 40 = .ok (.if_icmp .ne 7, 3) := by decide +kernel
theorem dX11_marksBy_43 : decode cX11_marksBy 43 = .ok (.iconst 1, 1) := by decide +kernel
theorem dX11_marksBy_44 : decode cX11_marksBy 44 = .ok (.goto 4, 3) := by decide +kernel
theorem dX11_marksBy_47 : decode cX11_marksBy 47 = .ok (.iconst 0, 1) := by decide +kernel
theorem dX11_marksBy_48 : decode cX11_marksBy 48 = .ok (.istore 5, 2) := by decide +kernel
theorem dX11_marksBy_50 : decode cX11_marksBy 50 = .ok (.iload 5, 2) := by decide +kernel
theorem dX11_marksBy_52 : decode cX11_marksBy 52 = .ok (.ifCond .eq 20, 3) := by decide +kernel
theorem dX11_marksBy_55 : decode cX11_marksBy 55 = .ok (.iload_n 2, 1) := by decide +kernel
theorem dX11_marksBy_56 : decode cX11_marksBy 56 = .ok (.ifCond .eq 13, 3) := by decide +kernel
theorem dX11_marksBy_59 : decode cX11_marksBy 59 = .ok (.aload_n 0, 1) := by decide +kernel
theorem dX11_marksBy_60 : decode cX11_marksBy 60 = .ok (.getfield 31, 3) := by decide +kernel
theorem dX11_marksBy_63 : decode cX11_marksBy 63 = .ok (.getfield 137, 3) := by decide +kernel
theorem dX11_marksBy_66 : decode cX11_marksBy 66 = .ok (.ifCond .eq 6, 3) := by decide +kernel
theorem dX11_marksBy_69 : decode cX11_marksBy 69 = .ok (.iinc 3 1, 3) := by decide +kernel
theorem dX11_marksBy_72 : decode cX11_marksBy 72 = .ok (.iinc 4 1, 3) := by decide +kernel
theorem dX11_marksBy_75 : decode cX11_marksBy 75 = .ok (.goto (-70), 3) := by decide +kernel
theorem dX11_marksBy_78 : decode cX11_marksBy 78 = .ok (.iload_n 3, 1) := by decide +kernel
theorem dX11_marksBy_79 : decode cX11_marksBy 79 = .ok (.ireturn, 1) := by decide +kernel
theorem dX11_draw_0 : decode cX11_draw 0 = .ok (.aload_n 0, 1) := by decide +kernel
theorem dX11_draw_1 : decode cX11_draw 1 = .ok (.aload_n 0, 1) := by decide +kernel
theorem dX11_draw_2 : decode cX11_draw 2 = .ok (.getfield 203, 3) := by decide +kernel
theorem dX11_draw_5 : decode cX11_draw 5 = .ok (.ldc_w 349, 3) := by decide +kernel
theorem dX11_draw_8 : decode cX11_draw 8 = .ok (.imul, 1) := by decide +kernel
theorem dX11_draw_9 : decode cX11_draw 9 = .ok (.sipush 12345, 3) := by decide +kernel
theorem dX11_draw_12 : decode cX11_draw 12 = .ok (.iadd, 1) := by decide +kernel
theorem dX11_draw_13 : decode cX11_draw 13 = .ok (.putfield 203, 3) := by decide +kernel
theorem dX11_draw_16 : decode cX11_draw 16 = .ok (.iload_n 1, 1) := by decide +kernel
theorem dX11_draw_17 : decode cX11_draw 17 = .ok (.ifCond .le 20, 3) := by decide +kernel
theorem dX11_draw_20 : decode cX11_draw 20 = .ok (.aload_n 0, 1) := by decide +kernel
theorem dX11_draw_21 : decode cX11_draw 21 = .ok (.getfield 203, 3) := by decide +kernel
theorem dX11_draw_24 : decode cX11_draw 24 = .ok (.ldc_w 350, 3) := by decide +kernel
theorem dX11_draw_27 : decode cX11_draw 27 = .ok (.iand, 1) := by decide +kernel
theorem dX11_draw_28 : decode cX11_draw 28 = .ok (.ldc_w 351, 3) := by decide +kernel
theorem dX11_draw_31 : decode cX11_draw 31 = .ok (.idiv, 1) := by decide +kernel
theorem dX11_draw_32 : decode cX11_draw 32 = .ok (.iload_n 1, 1) := by decide +kernel
theorem dX11_draw_33 : decode cX11_draw 33 = .ok (.irem, 1) := by decide +kernel
theorem dX11_draw_34 : decode cX11_draw 34 = .ok (.goto 4, 3) := by decide +kernel
theorem dX11_draw_37 : decode cX11_draw 37 = .ok (.iconst 0, 1) := by decide +kernel
theorem dX11_draw_38 : decode cX11_draw 38 = .ok (.ireturn, 1) := by decide +kernel
theorem dX11_slippedFrom_0 : decode cX11_slippedFrom 0 = .ok (.aload_n 0, 1) := by decide +kernel
theorem dX11_slippedFrom_1 : decode cX11_slippedFrom 1 = .ok (.iconst 4, 1) := by decide +kernel
theorem dX11_slippedFrom_2 : decode cX11_slippedFrom 2 = .ok (.invokevirtual 213, 3) := by decide +kernel
theorem dX11_slippedFrom_5 : decode cX11_slippedFrom 5 = .ok (.istore_n 2, 1) := by decide +kernel
theorem dX11_slippedFrom_6 : decode cX11_slippedFrom 6 = .ok (.iconst 1, 1) := by decide +kernel
theorem dX11_slippedFrom_7 : decode cX11_slippedFrom 7 = .ok (.istore_n 3, 1) := by decide +kernel
theorem dX11_slippedFrom_8 : decode cX11_slippedFrom 8 = .ok (.iconst 0, 1) := by decide +kernel
theorem dX11_slippedFrom_9 : decode cX11_slippedFrom 9 = .ok (.istore 4, 2) := by decide +kernel
theorem dX11_slippedFrom_11 : decode cX11_slippedFrom 11 = .ok (.iload 4, 2) := by decide +kernel
theorem dX11_slippedFrom_13 : decode cX11_slippedFrom 13 = .ok (.iload_n 2, 1) := by decide +kernel
theorem dX11_slippedFrom_14 : decode cX11_slippedFrom 14 = .ok (.if_icmp .ge 14, 3) := by decide +kernel
theorem dX11_slippedFrom_17 : decode cX11_slippedFrom 17 = .ok (.iload_n 3, 1) := by decide +kernel
theorem dX11_slippedFrom_18 : decode cX11_slippedFrom 18 = .ok (.bipush 10, 2) := by decide +kernel
theorem dX11_slippedFrom_20 : decode cX11_slippedFrom 20 = .ok (.imul, 1) := by decide +kernel
theorem dX11_slippedFrom_21 : decode cX11_slippedFrom 21 = .ok (.istore_n 3, 1) := by decide +kernel
theorem dX11_slippedFrom_22 : decode cX11_slippedFrom 22 = .ok (.iinc 4 1, 3) := by decide +kernel
theorem dX11_slippedFrom_25 : decode cX11_slippedFrom 25 = .ok (.goto (-14), 3) := by decide +kernel
theorem dX11_slippedFrom_28 : decode cX11_slippedFrom 28 = .ok (.aload_n 0, 1) := by decide +kernel
theorem dX11_slippedFrom_29 : decode cX11_slippedFrom 29 = .ok (.iconst 2, 1) := by decide +kernel
theorem dX11_slippedFrom_30 : decode cX11_slippedFrom 30 = .ok (.invokevirtual 213, 3) := by decide +kernel
theorem dX11_slippedFrom_33 : decode cX11_slippedFrom 33 = .ok (.ifCond .ne 7, 3) := by decide +kernel
theorem dX11_slippedFrom_36 : decode cX11_slippedFrom 36 = .ok (.iconst 1, 1) := by decide +kernel
theorem dX11_slippedFrom_37 : decode cX11_slippedFrom 37 = .ok (.goto 5, 3) := by decide +kernel
theorem dX11_slippedFrom_40 : decode cX11_slippedFrom 40 = .ok (.bipush 9, 2) := by decide +kernel
theorem dX11_slippedFrom_42 : decode cX11_slippedFrom 42 = .ok (.istore 4, 2) := by decide +kernel
theorem dX11_slippedFrom_44 : decode cX11_slippedFrom 44 = .ok (.iload_n 1, 1) := by decide +kernel
theorem dX11_slippedFrom_45 : decode cX11_slippedFrom 45 = .ok (.iload_n 3, 1) := by decide +kernel
theorem dX11_slippedFrom_46 : decode cX11_slippedFrom 46 = .ok (.idiv, 1) := by decide +kernel
theorem dX11_slippedFrom_47 : decode cX11_slippedFrom 47 = .ok (.bipush 10, 2) := by decide +kernel
theorem dX11_slippedFrom_49 : decode cX11_slippedFrom 49 = .ok (.irem, 1) := by decide +kernel
theorem dX11_slippedFrom_50 : decode cX11_slippedFrom 50 = .ok (.istore 5, 2) := by decide +kernel
theorem dX11_slippedFrom_52 : decode cX11_slippedFrom 52 = .ok (.iload_n 1, 1) := by decide +kernel
theorem dX11_slippedFrom_53 : decode cX11_slippedFrom 53 = .ok (.iload 5, 2) := by decide +kernel
theorem dX11_slippedFrom_55 : decode cX11_slippedFrom 55 = .ok (.iload 4, 2) := by decide +kernel
theorem dX11_slippedFrom_57 : decode cX11_slippedFrom 57 = .ok (.iadd, 1) := by decide +kernel
theorem dX11_slippedFrom_58 : decode cX11_slippedFrom 58 = .ok (.bipush 10, 2) := by decide +kernel
theorem dX11_slippedFrom_60 : decode cX11_slippedFrom 60 = .ok (.irem, 1) := by decide +kernel
theorem dX11_slippedFrom_61 : decode cX11_slippedFrom 61 = .ok (.iload 5, 2) := by decide +kernel
theorem dX11_slippedFrom_63 : decode cX11_slippedFrom 63 = .ok (.isub, 1) := by decide +kernel
theorem dX11_slippedFrom_64 : decode cX11_slippedFrom 64 = .ok (.iload_n 3, 1) := by decide +kernel
theorem dX11_slippedFrom_65 : decode cX11_slippedFrom 65 = .ok (.imul, 1) := by decide +kernel
theorem dX11_slippedFrom_66 : decode cX11_slippedFrom 66 = .ok (.iadd, 1) := by decide +kernel
theorem dX11_slippedFrom_67 : decode cX11_slippedFrom 67 = .ok (.ireturn, 1) := by decide +kernel
theorem dX11_weekInMind_0 : decode cX11_weekInMind 0 = .ok (.iconst 0, 1) := by decide +kernel
theorem dX11_weekInMind_1 : decode cX11_weekInMind 1 = .ok (.istore_n 3, 1) := by decide +kernel
theorem dX11_weekInMind_2 : decode cX11_weekInMind 2 = .ok (.iload_n 3, 1) := by decide +kernel
theorem dX11_weekInMind_3 : decode cX11_weekInMind 3 = .ok (.aload_n 0, 1) := by decide +kernel
theorem dX11_weekInMind_4 : decode cX11_weekInMind 4 = .ok (.getfield 10, 3) := by decide +kernel
theorem dX11_weekInMind_7 : decode cX11_weekInMind 7 = .ok (.getfield 222, 3) := by decide +kernel
theorem dX11_weekInMind_10 : decode cX11_weekInMind 10 = .ok (.if_icmp .ge 77, 3) := by decide +kernel
theorem dX11_weekInMind_13 : decode cX11_weekInMind 13 = .ok (.aload_n 0, 1) := by decide +kernel
theorem dX11_weekInMind_14 : decode cX11_weekInMind 14 = .ok (.bipush 100, 2) := by decide +kernel
theorem dX11_weekInMind_16 : decode cX11_weekInMind 16 = .ok (.invokevirtual 213, 3) := by decide +kernel
theorem dX11_weekInMind_19 : decode cX11_weekInMind 19 = .ok (.istore 4, 2) := by decide +kernel
theorem dX11_weekInMind_21 : decode cX11_weekInMind 21 = .ok (.iload 4, 2) := by decide +kernel
theorem dX11_weekInMind_23 : decode cX11_weekInMind 23 = .ok (.iload_n 1, 1) := by decide +kernel
theorem dX11_weekInMind_24 : decode cX11_weekInMind 24 = .ok (.if_icmp .ge 30, 3) := by decide +kernel
theorem dX11_weekInMind_27 : decode cX11_weekInMind 27 = .ok (.aload_n 0, 1) := by decide +kernel
theorem dX11_weekInMind_28 : decode cX11_weekInMind 28 = .ok (.getfield 55, 3) := by decide +kernel
theorem dX11_weekInMind_31 : decode cX11_weekInMind 31 = .ok (.iload_n 3, 1) := by decide +kernel
theorem dX11_weekInMind_32 : decode cX11_weekInMind 32 = .ok (.aload_n 0, 1) := by decide +kernel
theorem dX11_weekInMind_33 : decode cX11_weekInMind 33 = .ok (.getfield 10, 3) := by decide +kernel
theorem dX11_weekInMind_36 : decode cX11_weekInMind 36 = .ok (.iconst 0, 1) := by decide +kernel
theorem dX11_weekInMind_37 : decode cX11_weekInMind 37 = .ok (.aload_n 0, 1) := by decide +kernel
theorem dX11_weekInMind_38 : decode cX11_weekInMind 38 = .ok (.getfield 55, 3) := by decide +kernel
theorem dX11_weekInMind_41 : decode cX11_weekInMind 41 = .ok (.iload_n 3, 1) := by decide +kernel
theorem dX11_weekInMind_42 : decode cX11_weekInMind 42 = .ok (.invokestatic 102, 3) := by decide +kernel
theorem dX11_weekInMind_45 : decode cX11_weekInMind 45 = .ok (.invokevirtual 112, 3) := by decide +kernel
theorem dX11_weekInMind_48 : decode cX11_weekInMind 48 = .ok (.invokestatic 116, 3) := by decide +kernel
theorem dX11_weekInMind_51 : decode cX11_weekInMind 51 = .ok (.goto 30, 3) := by decide +kernel
theorem dX11_weekInMind_54 : decode cX11_weekInMind 54 = .ok (.iload 4, 2) := by decide +kernel
theorem dX11_weekInMind_56 : decode cX11_weekInMind 56 = .ok (.iload_n 1, 1) := by decide +kernel
theorem dX11_weekInMind_57 : decode cX11_weekInMind 57 = .ok (.iload_n 2, 1) := by decide +kernel
theorem dX11_weekInMind_58 : decode cX11_weekInMind 58 = .ok (.iadd, 1) := by decide +kernel
theorem dX11_weekInMind_59 : decode cX11_weekInMind 59 = .ok (.if_icmp .ge 22, 3) := by decide +kernel
theorem dX11_weekInMind_62 : decode cX11_weekInMind 62 = .ok (.aload_n 0, 1) := by decide +kernel
theorem dX11_weekInMind_63 : decode cX11_weekInMind 63 = .ok (.getfield 55, 3) := by decide +kernel
theorem dX11_weekInMind_66 : decode cX11_weekInMind 66 = .ok (.iload_n 3, 1) := by decide +kernel
theorem dX11_weekInMind_67 : decode cX11_weekInMind 67 = .ok (.aload_n 0, 1) := by decide +kernel
theorem dX11_weekInMind_68 : decode cX11_weekInMind 68 = .ok (.getfield 10, 3) := by decide +kernel
theorem dX11_weekInMind_71 : decode cX11_weekInMind 71 = .ok (.getfield 109, 3) := by decide +kernel
theorem dX11_weekInMind_74 : decode cX11_weekInMind 74 = .ok (.iload_n 3, 1) := by decide +kernel
theorem dX11_weekInMind_75 : decode cX11_weekInMind 75 = .ok (.invokestatic 102, 3) := by decide +kernel
theorem dX11_weekInMind_78 : decode cX11_weekInMind 78 = .ok (.invokestatic 116, 3) := by decide +kernel
theorem dX11_weekInMind_81 : decode cX11_weekInMind 81 = .ok (.iinc 3 1, 3) := by decide +kernel
theorem dX11_weekInMind_84 : decode cX11_weekInMind 84 = .ok (.goto (-82), 3) := by decide +kernel
theorem dX11_weekInMind_87 : decode cX11_weekInMind 87 = .ok (.return_, 1) := by decide +kernel
theorem dX11_childrenOfKind_0 : decode cX11_childrenOfKind 0 = .ok (.iconst 0, 1) := by decide +kernel
theorem dX11_childrenOfKind_1 : decode cX11_childrenOfKind 1 = .ok (.istore_n 2, 1) := by decide +kernel
theorem dX11_childrenOfKind_2 : decode cX11_childrenOfKind 2 = .ok (.iconst 0, 1) := by decide +kernel
theorem dX11_childrenOfKind_3 : decode cX11_childrenOfKind 3 = .ok (.istore_n 3, 1) := by decide +kernel
theorem dX11_childrenOfKind_4 : decode cX11_childrenOfKind 4 = .ok (.iload_n 3, 1) := by decide +kernel
theorem dX11_childrenOfKind_5 : decode cX11_childrenOfKind 5 = .ok (.aload_n 0, 1) := by decide +kernel
theorem dX11_childrenOfKind_6 : decode cX11_childrenOfKind 6 = .ok (.getfield 10, 3) := by decide +kernel
theorem dX11_childrenOfKind_9 : decode cX11_childrenOfKind 9 = .ok (.getfield 222, 3) := by decide +kernel
theorem dX11_childrenOfKind_12 : decode cX11_childrenOfKind 12 = .ok (.if_icmp .ge 34, 3) := by decide +kernel
theorem dX11_childrenOfKind_15 : decode cX11_childrenOfKind 15 = .ok (.aload_n 0, 1) := by decide +kernel
theorem dX11_childrenOfKind_16 : decode cX11_childrenOfKind 16 = .ok (.getfield 10, 3) := by decide +kernel
theorem dX11_childrenOfKind_19 : decode cX11_childrenOfKind 19 = .ok (.aload_n 0, 1) := by decide +kernel
theorem dX11_childrenOfKind_20 : decode cX11_childrenOfKind 20 = .ok (.getfield 10, 3) := by decide +kernel
theorem dX11_childrenOfKind_23 : decode cX11_childrenOfKind 23 = .ok (.getfield 99, 3) := by decide +kernel
theorem dX11_childrenOfKind_26 : decode cX11_childrenOfKind 26 = .ok (.iload_n 3, 1) := by decide +kernel
theorem dX11_childrenOfKind_27 : decode cX11_childrenOfKind 27 = .ok (.invokestatic 102, 3) := by decide +kernel
theorem dX11_childrenOfKind_30 : decode cX11_childrenOfKind 30 = .ok (.invokevirtual 228, 3) := by decide +kernel
theorem dX11_childrenOfKind_33 : decode cX11_childrenOfKind 33 = .ok (.iload_n 1, 1) := by decide +kernel
theorem dX11_childrenOfKind_34 : decode cX11_childrenOfKind 34 = .ok (.if_icmp .ne 6, 3) := by decide +kernel
theorem dX11_childrenOfKind_37 : decode cX11_childrenOfKind 37 = .ok (.iinc 2 1, 3) := by decide +kernel
theorem dX11_childrenOfKind_40 : decode cX11_childrenOfKind 40 = .ok (.iinc 3 1, 3) := by decide +kernel
theorem dX11_childrenOfKind_43 : decode cX11_childrenOfKind 43 = .ok (.goto (-39), 3) := by decide +kernel
theorem dX11_childrenOfKind_46 : decode cX11_childrenOfKind 46 = .ok (.iload_n 2, 1) := by decide +kernel
theorem dX11_childrenOfKind_47 : decode cX11_childrenOfKind 47 = .ok (.ireturn, 1) := by decide +kernel
theorem dX11_greatestKind_0 : decode cX11_greatestKind 0 = .ok (.bipush (-4), 2) := by decide +kernel
theorem dX11_greatestKind_2 : decode cX11_greatestKind 2 = .ok (.istore_n 2, 1) := by decide +kernel
theorem dX11_greatestKind_3 : decode cX11_greatestKind 3 = .ok (.iconst 0, 1) := by decide +kernel
theorem dX11_greatestKind_4 : decode cX11_greatestKind 4 = .ok (.istore_n 3, 1) := by decide +kernel
theorem dX11_greatestKind_5 : decode cX11_greatestKind 5 = .ok (.iconst 1, 1) := by decide +kernel
theorem dX11_greatestKind_6 : decode cX11_greatestKind 6 = .ok (.istore 4, 2) := by decide +kernel
theorem dX11_greatestKind_8 : decode cX11_greatestKind 8 = .ok (.iload 4, 2) := by decide +kernel
theorem dX11_greatestKind_10 : decode cX11_greatestKind 10 = .ok (.bipush 8, 2) := by decide +kernel
theorem dX11_greatestKind_12 : decode cX11_greatestKind 12 = .ok (.if_icmp .ge 38, 3) := by decide +kernel
theorem dX11_greatestKind_15 : decode cX11_greatestKind 15 = .ok (.aload_n 0, 1) := by decide +kernel
theorem dX11_greatestKind_16 : decode cX11_greatestKind 16 = .ok (.iload 4, 2) := by decide +kernel
theorem dX11_greatestKind_18 : decode cX11_greatestKind 18 = .ok (.invokevirtual 231, 3) := by decide +kernel
theorem dX11_greatestKind_21 : decode cX11_greatestKind 21 = .ok (.istore 5, 2) := by decide +kernel
theorem dX11_greatestKind_23 : decode cX11_greatestKind 23 = .ok (.iload 5, 2) := by decide +kernel
theorem dX11_greatestKind_25 : decode cX11_greatestKind 25 = .ok (.iload_n 3, 1) := by decide +kernel
theorem dX11_greatestKind_26 : decode cX11_greatestKind 26 = .ok (.if_icmp .le 18, 3) := by decide +kernel
theorem dX11_greatestKind_29 : decode cX11_greatestKind 29 = .ok (.iload_n 1, 1) := by decide +kernel
theorem dX11_greatestKind_30 : decode cX11_greatestKind 30 = .ok (.iload 4, 2) := by decide +kernel
theorem dX11_greatestKind_32 : decode cX11_greatestKind 32 = .ok (.invokestatic 331, 3) := by decide +kernel
theorem dX11_greatestKind_35 : decode cX11_greatestKind 35 = .ok (.ifCond .ne 9, 3) := by decide +kernel
theorem dX11_greatestKind_38 : decode cX11_greatestKind 38 = .ok (.iload 5, 2) := by decide +kernel
theorem dX11_greatestKind_40 : decode cX11_greatestKind 40 = .ok (.istore_n 3, 1) := by decide +kernel
theorem dX11_greatestKind_41 : decode cX11_greatestKind 41 = .ok (.iload 4, 2) := by decide +kernel
theorem dX11_greatestKind_43 : decode cX11_greatestKind 43 = .ok (.istore_n 2, 1) := by decide +kernel
theorem dX11_greatestKind_44 : decode cX11_greatestKind 44 = .ok (.iinc 4 1, 3) := by decide +kernel
theorem dX11_greatestKind_47 : decode cX11_greatestKind 47 = .ok (.goto (-39), 3) := by decide +kernel
theorem dX11_greatestKind_50 : decode cX11_greatestKind 50 = .ok (.iload_n 2, 1) := by decide +kernel
theorem dX11_greatestKind_51 : decode cX11_greatestKind 51 = .ok (.ireturn, 1) := by decide +kernel
theorem dX11_isCopied_0 : decode cX11_isCopied 0 = .ok (.aload_n 0, 1) := by decide +kernel
theorem dX11_isCopied_1 : decode cX11_isCopied 1 = .ok (.getfield 42, 3) := by decide +kernel
theorem dX11_isCopied_4 : decode cX11_isCopied 4 = .ok (.iload_n 1, 1) := by decide +kernel
theorem dX11_isCopied_5 : decode cX11_isCopied 5 = .ok (.invokestatic 102, 3) := by decide +kernel
theorem dX11_isCopied_8 : decode cX11_isCopied 8 = .ok (.istore_n 2, 1) := by decide +kernel
theorem dX11_isCopied_9 : decode cX11_isCopied 9 = .ok (.iload_n 2, 1) := by decide +kernel
theorem dX11_isCopied_10 : decode cX11_isCopied 10 = .ok (.aload_n 0, 1) := by decide +kernel
theorem dX11_isCopied_11 : decode cX11_isCopied 11 = .ok (.getfield 45, 3) := by decide +kernel
theorem dX11_isCopied_14 : decode cX11_isCopied 14 = .ok (.iload_n 1, 1) := by decide +kernel
theorem dX11_isCopied_15 : decode cX11_isCopied 15 = .ok (.invokestatic 102, 3) := by decide +kernel
theorem dX11_isCopied_18 : decode cX11_isCopied 18 = .ok (.if_icmp .ne 33, 3) := by decide +kernel
theorem dX11_isCopied_21 : decode cX11_isCopied 21 = .ok (.iload_n 2, 1) := by decide +kernel
theorem dX11_isCopied_22 : decode cX11_isCopied 22 = .ok (.iconst (-1), 1) := by decide +kernel
theorem dX11_isCopied_23 : decode cX11_isCopied 23 = .ok (.if_icmp .eq 28, 3) := by decide +kernel
theorem dX11_isCopied_26 : decode cX11_isCopied 26 = .ok (.iload_n 2, 1) := by decide +kernel
theorem dX11_isCopied_27 : decode cX11_isCopied 27 = .ok (.aload_n 0, 1) := by decide +kernel
theorem dX11_isCopied_28 : decode cX11_isCopied 28 = .ok (.getfield 35, 3) := by decide +kernel
theorem dX11_isCopied_31 : decode cX11_isCopied 31 = .ok (.iload_n 1, 1) := by decide +kernel
theorem dX11_isCopied_32 : decode cX11_isCopied 32 = .ok (.invokestatic 102, 3) := by decide +kernel
theorem dX11_isCopied_35 : decode cX11_isCopied 35 = .ok (.aload_n 0, 1) := by decide +kernel
theorem dX11_isCopied_36 : decode cX11_isCopied 36 = .ok (.getfield 39, 3) := by decide +kernel
theorem dX11_isCopied_39 : decode cX11_isCopied 39 = .ok (.iload_n 1, 1) := by decide +kernel
theorem dX11_isCopied_40 : decode cX11_isCopied 40 = .ok (.invokestatic 102, 3) := by decide +kernel
theorem dX11_isCopied_43 : decode cX11_isCopied 43 = .ok (.isub, 1) := by decide +kernel
theorem dX11_isCopied_44 : decode cX11_isCopied 44 = .ok (.if_icmp .eq 7, 3) := by decide +kernel
theorem dX11_isCopied_47 : decode cX11_isCopied 47 = .ok (.iconst 1, 1) := by decide +kernel
theorem dX11_isCopied_48 : decode cX11_isCopied 48 = .ok (.goto 4, 3) := by decide +kernel
theorem dX11_isCopied_51 : decode cX11_isCopied 51 = .ok (.iconst 0, 1) := by decide +kernel
theorem dX11_isCopied_52 : decode cX11_isCopied 52 = .ok (.ireturn, 1) := by decide +kernel
theorem dX11_comesByNoWay_0 : decode cX11_comesByNoWay 0 = .ok (.aload_n 0, 1) := by decide +kernel
theorem dX11_comesByNoWay_1 : decode cX11_comesByNoWay 1 = .ok (.aload_n 0, 1) := by decide +kernel
theorem dX11_comesByNoWay_2 : decode cX11_comesByNoWay 2 = .ok (.getfield 35, 3) := by decide +kernel
theorem dX11_comesByNoWay_5 : decode cX11_comesByNoWay 5 = .ok (.iload_n 1, 1) := by decide +kernel
theorem dX11_comesByNoWay_6 : decode cX11_comesByNoWay 6 = .ok (.invokestatic 102, 3) := by decide +kernel
theorem dX11_comesByNoWay_9 : decode cX11_comesByNoWay 9 = .ok (.aload_n 0, 1) := by decide +kernel
theorem dX11_comesByNoWay_10 : decode cX11_comesByNoWay 10 = .ok (.getfield 39, 3) := by decide +kernel
theorem dX11_comesByNoWay_13 : decode cX11_comesByNoWay 13 = .ok (.iload_n 1, 1) := by decide +kernel
theorem dX11_comesByNoWay_14 : decode cX11_comesByNoWay 14 = .ok (.invokestatic 102, 3) := by decide +kernel
theorem dX11_comesByNoWay_17 : decode cX11_comesByNoWay 17 = .ok (.aload_n 0, 1) := by decide +kernel
theorem dX11_comesByNoWay_18 : decode cX11_comesByNoWay 18 = .ok (.getfield 42, 3) := by decide +kernel
theorem dX11_comesByNoWay_21 : decode cX11_comesByNoWay 21 = .ok (.iload_n 1, 1) := by decide +kernel
theorem dX11_comesByNoWay_22 : decode cX11_comesByNoWay 22 = .ok (.invokestatic 102, 3) := by decide +kernel
theorem dX11_comesByNoWay_25 : decode cX11_comesByNoWay 25 = .ok (.invokevirtual 140, 3) := by decide +kernel
theorem dX11_comesByNoWay_28 : decode cX11_comesByNoWay 28 = .ok (.ifCond .ne 7, 3) := by decide +kernel
theorem dX11_comesByNoWay_31 : decode cX11_comesByNoWay 31 = .ok (.iconst 1, 1) := by decide +kernel
theorem dX11_comesByNoWay_32 : decode cX11_comesByNoWay 32 = .ok (.goto 4, 3) := by decide +kernel
theorem dX11_comesByNoWay_35 : decode cX11_comesByNoWay 35 = .ok (.iconst 0, 1) := by decide +kernel
theorem dX11_comesByNoWay_36 : decode cX11_comesByNoWay 36 = .ok (.ireturn, 1) := by decide +kernel
theorem dX11_waysOfRightKind_0 : decode cX11_waysOfRightKind 0 = .ok (.iconst 0, 1) := by decide +kernel
theorem dX11_waysOfRightKind_1 : decode cX11_waysOfRightKind 1 = .ok (.istore_n 1, 1) := by decide +kernel
theorem dX11_waysOfRightKind_2 : decode cX11_waysOfRightKind 2 = .ok (.iconst 0, 1) := by decide +kernel
theorem dX11_waysOfRightKind_3 : decode cX11_waysOfRightKind 3 = .ok (.istore_n 2, 1) := by decide +kernel
theorem dX11_waysOfRightKind_4 : decode cX11_waysOfRightKind 4 = .ok (.iload_n 2, 1) := by decide +kernel
theorem dX11_waysOfRightKind_5 : decode cX11_waysOfRightKind 5 = .ok (.aload_n 0, 1) := by decide +kernel
theorem dX11_waysOfRightKind_6 : decode cX11_waysOfRightKind 6 = .ok (.getfield 10, 3) := by decide +kernel
theorem dX11_waysOfRightKind_9 : decode cX11_waysOfRightKind 9 = .ok (.getfield 164, 3) := by decide +kernel
theorem dX11_waysOfRightKind_12 : decode cX11_waysOfRightKind 12 = .ok (.if_icmp .ge 23, 3) := by decide +kernel
theorem dX11_waysOfRightKind_15 : decode cX11_waysOfRightKind 15 = .ok (.aload_n 0, 1) := by decide +kernel
theorem dX11_waysOfRightKind_16 : decode cX11_waysOfRightKind 16 = .ok (.getfield 10, 3) := by decide +kernel
theorem dX11_waysOfRightKind_19 : decode cX11_waysOfRightKind 19 = .ok (.iload_n 2, 1) := by decide +kernel
theorem dX11_waysOfRightKind_20 : decode cX11_waysOfRightKind 20 = .ok (.invokevirtual 228, 3) := by decide +kernel
theorem dX11_waysOfRightKind_23 : decode cX11_waysOfRightKind 23 = .ok (.ifCond .ne 6, 3) := by decide +kernel
theorem dX11_waysOfRightKind_26 : decode cX11_waysOfRightKind 26 = .ok (.iinc 1 1, 3) := by decide +kernel
theorem dX11_waysOfRightKind_29 : decode cX11_waysOfRightKind 29 = .ok (.iinc 2 1, 3) := by decide +kernel
theorem dX11_waysOfRightKind_32 : decode cX11_waysOfRightKind 32 = .ok (.goto (-28), 3) := by decide +kernel
theorem dX11_waysOfRightKind_35 : decode cX11_waysOfRightKind 35 = .ok (.iload_n 1, 1) := by decide +kernel
theorem dX11_waysOfRightKind_36 : decode cX11_waysOfRightKind 36 = .ok (.ireturn, 1) := by decide +kernel
theorem dX11_childrenChanged_0 : decode cX11_childrenChanged 0 = .ok (.iconst 0, 1) := by decide +kernel
theorem dX11_childrenChanged_1 : decode cX11_childrenChanged 1 = .ok (.istore_n 1, 1) := by decide +kernel
theorem dX11_childrenChanged_2 : decode cX11_childrenChanged 2 = .ok (.iconst 0, 1) := by decide +kernel
theorem dX11_childrenChanged_3 : decode cX11_childrenChanged 3 = .ok (.istore_n 2, 1) := by decide +kernel
theorem dX11_childrenChanged_4 : decode cX11_childrenChanged 4 = .ok (.iload_n 2, 1) := by decide +kernel
theorem dX11_childrenChanged_5 : decode cX11_childrenChanged 5 = .ok (.aload_n 0, 1) := by decide +kernel
theorem dX11_childrenChanged_6 : decode cX11_childrenChanged 6 = .ok (.getfield 10, 3) := by decide +kernel
theorem dX11_childrenChanged_9 : decode cX11_childrenChanged 9 = .ok (.getfield 222, 3) := by decide +kernel
theorem dX11_childrenChanged_12 : decode cX11_childrenChanged 12 = .ok (.if_icmp .ge 37, 3) := by decide +kernel
theorem dX11_childrenChanged_15 : decode cX11_childrenChanged 15 = .ok (.aload_n 0, 1) := by decide +kernel
theorem dX11_childrenChanged_16 : decode cX11_childrenChanged 16 = .ok (.getfield 10, 3) := by decide +kernel
theorem dX11_childrenChanged_19 : decode cX11_childrenChanged 19 = .ok (.getfield 99, 3) := by decide +kernel
theorem dX11_childrenChanged_22 : decode cX11_childrenChanged 22 = .ok (.iload_n 2, 1) := by decide +kernel
theorem dX11_childrenChanged_23 : decode cX11_childrenChanged 23 = .ok (.invokestatic 102, 3) := by decide +kernel
theorem dX11_childrenChanged_26 : decode cX11_childrenChanged 26 = .ok (.aload_n 0, 1) := by decide +kernel
theorem dX11_childrenChanged_27 : decode cX11_childrenChanged 27 = .ok (.getfield 10, 3) := by decide +kernel
theorem dX11_childrenChanged_30 : decode cX11_childrenChanged 30 = .ok (.getfield 109, 3) := by decide +kernel
theorem dX11_childrenChanged_33 : decode cX11_childrenChanged 33 = .ok (.iload_n 2, 1) := by decide +kernel
theorem dX11_childrenChanged_34 : decode cX11_childrenChanged 34 = .ok (.invokestatic 102, 3) := by decide +kernel
theorem dX11_childrenChanged_37 : decode cX11_childrenChanged 37 = .ok (.if_icmp .eq 6, 3) := by decide +kernel
theorem dX11_childrenChanged_40 : decode cX11_childrenChanged 40 = .ok (.iinc 1 1, 3) := by decide +kernel
theorem dX11_childrenChanged_43 : decode cX11_childrenChanged 43 = .ok (.iinc 2 1, 3) := by decide +kernel
theorem dX11_childrenChanged_46 : decode cX11_childrenChanged 46 = .ok (.goto (-42), 3) := by decide +kernel
theorem dX11_childrenChanged_49 : decode cX11_childrenChanged 49 = .ok (.iload_n 1, 1) := by decide +kernel
theorem dX11_childrenChanged_50 : decode cX11_childrenChanged 50 = .ok (.ireturn, 1) := by decide +kernel
theorem dX11_caughtFrom_0 : decode cX11_caughtFrom 0 = .ok (.aload_n 0, 1) := by decide +kernel
theorem dX11_caughtFrom_1 : decode cX11_caughtFrom 1 = .ok (.invokevirtual 352, 3) := by decide +kernel
theorem dX11_caughtFrom_4 : decode cX11_caughtFrom 4 = .ok (.goto 28, 3) := by decide +kernel
theorem dX11_caughtFrom_7 : decode cX11_caughtFrom 7 = .ok (.astore_n 1, 1) := by decide +kernel
theorem dX11_caughtFrom_8 : decode cX11_caughtFrom 8 = .ok (.sipush 200, 3) := by decide +kernel
theorem dX11_caughtFrom_11 : decode cX11_caughtFrom 11 = .ok (.aload_n 0, 1) := by decide +kernel
theorem dX11_caughtFrom_12 : decode cX11_caughtFrom 12 = .ok (.invokevirtual 91, 3) := by decide +kernel
theorem dX11_caughtFrom_15 : decode cX11_caughtFrom 15 = .ok (.iadd, 1) := by decide +kernel
theorem dX11_caughtFrom_16 : decode cX11_caughtFrom 16 = .ok (.ireturn, 1) := by decide +kernel
theorem dX11_caughtFrom_17 : decode cX11_caughtFrom 17 = .ok (.astore_n 1, 1) := by decide +kernel
theorem dX11_caughtFrom_18 : decode cX11_caughtFrom 18 = .ok (.bipush 100, 2) := by decide +kernel
theorem dX11_caughtFrom_20 : decode cX11_caughtFrom 20 = .ok (.aload_n 0, 1) := by decide +kernel
theorem dX11_caughtFrom_21 : decode cX11_caughtFrom 21 = .ok (.getfield 357, 3) := by decide +kernel
theorem dX11_caughtFrom_24 : decode cX11_caughtFrom 24 = .ok (.iadd, 1) := by decide +kernel
theorem dX11_caughtFrom_25 : decode cX11_caughtFrom 25 = .ok (.ireturn, 1) := by decide +kernel
theorem dX11_caughtFrom_26 : decode cX11_caughtFrom 26 = .ok (.astore_n 1, 1) := by decide +kernel
theorem dX11_caughtFrom_27 : decode cX11_caughtFrom 27 = .ok (.aload_n 0, 1) := by decide +kernel
theorem dX11_caughtFrom_28 : decode cX11_caughtFrom 28 = .ok (.getfield 357, 3) := by decide +kernel
theorem dX11_caughtFrom_31 : decode cX11_caughtFrom 31 = .ok (.ireturn, 1) := by decide +kernel
theorem dX11_caughtFrom_32 : decode cX11_caughtFrom 32 = .ok (.bipush (-15), 2) := by decide +kernel
theorem dX11_caughtFrom_34 : decode cX11_caughtFrom 34 = .ok (.ireturn, 1) := by decide +kernel
theorem dJ6_bitCount_0f7a4_0 : decode cJ6_bitCount_0f7a4 0 = .ok (.iload_n 0, 1) := by decide +kernel
theorem dJ6_bitCount_0f7a4_1 : decode cJ6_bitCount_0f7a4 1 = .ok (.iload_n 0, 1) := by decide +kernel
theorem dJ6_bitCount_0f7a4_2 : decode cJ6_bitCount_0f7a4 2 = .ok (.iconst 1, 1) := by decide +kernel
theorem dJ6_bitCount_0f7a4_3 : decode cJ6_bitCount_0f7a4 3 = .ok (.iushr, 1) := by decide +kernel
theorem dJ6_bitCount_0f7a4_4 : decode cJ6_bitCount_0f7a4 4 = .ok (.ldc_w 265, 3) := by decide +kernel
theorem dJ6_bitCount_0f7a4_7 : decode cJ6_bitCount_0f7a4 7 = .ok (.iand, 1) := by decide +kernel
theorem dJ6_bitCount_0f7a4_8 : decode cJ6_bitCount_0f7a4 8 = .ok (.isub, 1) := by decide +kernel
theorem dJ6_bitCount_0f7a4_9 : decode cJ6_bitCount_0f7a4 9 = .ok (.istore_n 0, 1) := by decide +kernel
theorem dJ6_bitCount_0f7a4_10 : decode cJ6_bitCount_0f7a4 10 = .ok (.iload_n 0, 1) := by decide +kernel
theorem dJ6_bitCount_0f7a4_11 : decode cJ6_bitCount_0f7a4 11 = .ok (.ldc_w 266, 3) := by decide +kernel
theorem dJ6_bitCount_0f7a4_14 : decode cJ6_bitCount_0f7a4 14 = .ok (.iand, 1) := by decide +kernel
theorem dJ6_bitCount_0f7a4_15 : decode cJ6_bitCount_0f7a4 15 = .ok (.iload_n 0, 1) := by decide +kernel
theorem dJ6_bitCount_0f7a4_16 : decode cJ6_bitCount_0f7a4 16 = .ok (.iconst 2, 1) := by decide +kernel
theorem dJ6_bitCount_0f7a4_17 : decode cJ6_bitCount_0f7a4 17 = .ok (.iushr, 1) := by decide +kernel
theorem dJ6_bitCount_0f7a4_18 : decode cJ6_bitCount_0f7a4 18 = .ok (.ldc_w 266, 3) := by decide +kernel
theorem dJ6_bitCount_0f7a4_21 : decode cJ6_bitCount_0f7a4 21 = .ok (.iand, 1) := by decide +kernel
theorem dJ6_bitCount_0f7a4_22 : decode cJ6_bitCount_0f7a4 22 = .ok (.iadd, 1) := by decide +kernel
theorem dJ6_bitCount_0f7a4_23 : decode cJ6_bitCount_0f7a4 23 = .ok (.istore_n 0, 1) := by decide +kernel
theorem dJ6_bitCount_0f7a4_24 : decode cJ6_bitCount_0f7a4 24 = .ok (.iload_n 0, 1) := by decide +kernel
theorem dJ6_bitCount_0f7a4_25 : decode cJ6_bitCount_0f7a4 25 = .ok (.iload_n 0, 1) := by decide +kernel
theorem dJ6_bitCount_0f7a4_26 : decode cJ6_bitCount_0f7a4 26 = .ok (.iconst 4, 1) := by decide +kernel
theorem dJ6_bitCount_0f7a4_27 : decode cJ6_bitCount_0f7a4 27 = .ok (.iushr, 1) := by decide +kernel
theorem dJ6_bitCount_0f7a4_28 : decode cJ6_bitCount_0f7a4 28 = .ok (.iadd, 1) := by decide +kernel
theorem dJ6_bitCount_0f7a4_29 : decode cJ6_bitCount_0f7a4 29 = .ok (.ldc_w 267, 3) := by decide +kernel
theorem dJ6_bitCount_0f7a4_32 : decode cJ6_bitCount_0f7a4 32 = .ok (.iand, 1) := by decide +kernel
theorem dJ6_bitCount_0f7a4_33 : decode cJ6_bitCount_0f7a4 33 = .ok (.istore_n 0, 1) := by decide +kernel
theorem dJ6_bitCount_0f7a4_34 : decode cJ6_bitCount_0f7a4 34 = .ok (.iload_n 0, 1) := by decide +kernel
theorem dJ6_bitCount_0f7a4_35 : decode cJ6_bitCount_0f7a4 35 = .ok (.iload_n 0, 1) := by decide +kernel
theorem dJ6_bitCount_0f7a4_36 : decode cJ6_bitCount_0f7a4 36 = .ok (.bipush 8, 2) := by decide +kernel
theorem dJ6_bitCount_0f7a4_38 : decode cJ6_bitCount_0f7a4 38 = .ok (.iushr, 1) := by decide +kernel
theorem dJ6_bitCount_0f7a4_39 : decode cJ6_bitCount_0f7a4 39 = .ok (.iadd, 1) := by decide +kernel
theorem dJ6_bitCount_0f7a4_40 : decode cJ6_bitCount_0f7a4 40 = .ok (.istore_n 0, 1) := by decide +kernel
theorem dJ6_bitCount_0f7a4_41 : decode cJ6_bitCount_0f7a4 41 = .ok (.iload_n 0, 1) := by decide +kernel
theorem dJ6_bitCount_0f7a4_42 : decode cJ6_bitCount_0f7a4 42 = .ok (.iload_n 0, 1) := by decide +kernel
theorem dJ6_bitCount_0f7a4_43 : decode cJ6_bitCount_0f7a4 43 = .ok (.bipush 16, 2) := by decide +kernel
theorem dJ6_bitCount_0f7a4_45 : decode cJ6_bitCount_0f7a4 45 = .ok (.iushr, 1) := by decide +kernel
theorem dJ6_bitCount_0f7a4_46 : decode cJ6_bitCount_0f7a4 46 = .ok (.iadd, 1) := by decide +kernel
theorem dJ6_bitCount_0f7a4_47 : decode cJ6_bitCount_0f7a4 47 = .ok (.istore_n 0, 1) := by decide +kernel
theorem dJ6_bitCount_0f7a4_48 : decode cJ6_bitCount_0f7a4 48 = .ok (.iload_n 0, 1) := by decide +kernel
theorem dJ6_bitCount_0f7a4_49 : decode cJ6_bitCount_0f7a4 49 = .ok (.bipush 63, 2) := by decide +kernel
theorem dJ6_bitCount_0f7a4_51 : decode cJ6_bitCount_0f7a4 51 = .ok (.iand, 1) := by decide +kernel
theorem dJ6_bitCount_0f7a4_52 : decode cJ6_bitCount_0f7a4 52 = .ok (.ireturn, 1) := by decide +kernel
theorem dJ13_bitCount_95d88_0 : decode cJ13_bitCount_95d88 0 = .ok (.lload_n 0, 1) := by decide +kernel
theorem dJ13_bitCount_95d88_1 : decode cJ13_bitCount_95d88 1 = .ok (.lload_n 0, 1) := by decide +kernel
theorem dJ13_bitCount_95d88_2 : decode cJ13_bitCount_95d88 2 = .ok (.iconst 1, 1) := by decide +kernel
theorem dJ13_bitCount_95d88_3 : decode cJ13_bitCount_95d88 3 = .ok (.lushr, 1) := by decide +kernel
theorem dJ13_bitCount_95d88_4 : decode cJ13_bitCount_95d88 4 = .ok (.ldc2_w 314, 3) := by decide +kernel
theorem dJ13_bitCount_95d88_7 : decode cJ13_bitCount_95d88 7 = .ok (.land, 1) := by decide +kernel
theorem dJ13_bitCount_95d88_8 : decode cJ13_bitCount_95d88 8 = .ok (.lsub, 1) := by decide +kernel
theorem dJ13_bitCount_95d88_9 : decode cJ13_bitCount_95d88 9 = .ok (.lstore_n 0, 1) := by decide +kernel
theorem dJ13_bitCount_95d88_10 : decode cJ13_bitCount_95d88 10 = .ok (.lload_n 0, 1) := by decide +kernel
theorem dJ13_bitCount_95d88_11 : decode cJ13_bitCount_95d88 11 = .ok (.ldc2_w 316, 3) := by decide +kernel
theorem dJ13_bitCount_95d88_14 : decode cJ13_bitCount_95d88 14 = .ok (.land, 1) := by decide +kernel
theorem dJ13_bitCount_95d88_15 : decode cJ13_bitCount_95d88 15 = .ok (.lload_n 0, 1) := by decide +kernel
theorem dJ13_bitCount_95d88_16 : decode cJ13_bitCount_95d88 16 = .ok (.iconst 2, 1) := by decide +kernel
theorem dJ13_bitCount_95d88_17 : decode cJ13_bitCount_95d88 17 = .ok (.lushr, 1) := by decide +kernel
theorem dJ13_bitCount_95d88_18 : decode cJ13_bitCount_95d88 18 = .ok (.ldc2_w 316, 3) := by decide +kernel
theorem dJ13_bitCount_95d88_21 : decode cJ13_bitCount_95d88 21 = .ok (.land, 1) := by decide +kernel
theorem dJ13_bitCount_95d88_22 : decode cJ13_bitCount_95d88 22 = .ok (.ladd, 1) := by decide +kernel
theorem dJ13_bitCount_95d88_23 : decode cJ13_bitCount_95d88 23 = .ok (.lstore_n 0, 1) := by decide +kernel
theorem dJ13_bitCount_95d88_24 : decode cJ13_bitCount_95d88 24 = .ok (.lload_n 0, 1) := by decide +kernel
theorem dJ13_bitCount_95d88_25 : decode cJ13_bitCount_95d88 25 = .ok (.lload_n 0, 1) := by decide +kernel
theorem dJ13_bitCount_95d88_26 : decode cJ13_bitCount_95d88 26 = .ok (.iconst 4, 1) := by decide +kernel
theorem dJ13_bitCount_95d88_27 : decode cJ13_bitCount_95d88 27 = .ok (.lushr, 1) := by decide +kernel
theorem dJ13_bitCount_95d88_28 : decode cJ13_bitCount_95d88 28 = .ok (.ladd, 1) := by decide +kernel
theorem dJ13_bitCount_95d88_29 : decode cJ13_bitCount_95d88 29 = .ok (.ldc2_w 318, 3) := by decide +kernel
theorem dJ13_bitCount_95d88_32 : decode cJ13_bitCount_95d88 32 = .ok (.land, 1) := by decide +kernel
theorem dJ13_bitCount_95d88_33 : decode cJ13_bitCount_95d88 33 = .ok (.lstore_n 0, 1) := by decide +kernel
theorem dJ13_bitCount_95d88_34 : decode cJ13_bitCount_95d88 34 = .ok (.lload_n 0, 1) := by decide +kernel
theorem dJ13_bitCount_95d88_35 : decode cJ13_bitCount_95d88 35 = .ok (.lload_n 0, 1) := by decide +kernel
theorem dJ13_bitCount_95d88_36 : decode cJ13_bitCount_95d88 36 = .ok (.bipush 8, 2) := by decide +kernel
theorem dJ13_bitCount_95d88_38 : decode cJ13_bitCount_95d88 38 = .ok (.lushr, 1) := by decide +kernel
theorem dJ13_bitCount_95d88_39 : decode cJ13_bitCount_95d88 39 = .ok (.ladd, 1) := by decide +kernel
theorem dJ13_bitCount_95d88_40 : decode cJ13_bitCount_95d88 40 = .ok (.lstore_n 0, 1) := by decide +kernel
theorem dJ13_bitCount_95d88_41 : decode cJ13_bitCount_95d88 41 = .ok (.lload_n 0, 1) := by decide +kernel
theorem dJ13_bitCount_95d88_42 : decode cJ13_bitCount_95d88 42 = .ok (.lload_n 0, 1) := by decide +kernel
theorem dJ13_bitCount_95d88_43 : decode cJ13_bitCount_95d88 43 = .ok (.bipush 16, 2) := by decide +kernel
theorem dJ13_bitCount_95d88_45 : decode cJ13_bitCount_95d88 45 = .ok (.lushr, 1) := by decide +kernel
theorem dJ13_bitCount_95d88_46 : decode cJ13_bitCount_95d88 46 = .ok (.ladd, 1) := by decide +kernel
theorem dJ13_bitCount_95d88_47 : decode cJ13_bitCount_95d88 47 = .ok (.lstore_n 0, 1) := by decide +kernel
theorem dJ13_bitCount_95d88_48 : decode cJ13_bitCount_95d88 48 = .ok (.lload_n 0, 1) := by decide +kernel
theorem dJ13_bitCount_95d88_49 : decode cJ13_bitCount_95d88 49 = .ok (.lload_n 0, 1) := by decide +kernel
theorem dJ13_bitCount_95d88_50 : decode cJ13_bitCount_95d88 50 = .ok (.bipush 32, 2) := by decide +kernel
theorem dJ13_bitCount_95d88_52 : decode cJ13_bitCount_95d88 52 = .ok (.lushr, 1) := by decide +kernel
theorem dJ13_bitCount_95d88_53 : decode cJ13_bitCount_95d88 53 = .ok (.ladd, 1) := by decide +kernel
theorem dJ13_bitCount_95d88_54 : decode cJ13_bitCount_95d88 54 = .ok (.lstore_n 0, 1) := by decide +kernel
theorem dJ13_bitCount_95d88_55 : decode cJ13_bitCount_95d88 55 = .ok (.lload_n 0, 1) := by decide +kernel
theorem dJ13_bitCount_95d88_56 : decode cJ13_bitCount_95d88 56 = .ok (.l2i, 1) := by decide +kernel
theorem dJ13_bitCount_95d88_57 : decode cJ13_bitCount_95d88 57 = .ok (.bipush 127, 2) := by decide +kernel
theorem dJ13_bitCount_95d88_59 : decode cJ13_bitCount_95d88 59 = .ok (.iand, 1) := by decide +kernel
theorem dJ13_bitCount_95d88_60 : decode cJ13_bitCount_95d88 60 = .ok (.ireturn, 1) := by decide +kernel
