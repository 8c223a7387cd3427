theorem dX12_keepsAct_86 : decode mX12_keepsAct.2.1 86 = .ok (.return_, 1) := by decide +kernel
theorem dX12_keepsAside_0 : decode mX12_keepsAside.2.1 0 = .ok (.aload_n 0, 1) := by decide +kernel
theorem dX12_keepsAside_1 : decode mX12_keepsAside.2.1 1 = .ok (.getfield 37, 3) := by decide +kernel
theorem dX12_keepsAside_4 : decode mX12_keepsAside.2.1 4 = .ok (.iconst 0, 1) := by decide +kernel
theorem dX12_keepsAside_5 : decode mX12_keepsAside.2.1 5 = .ok (.aload_n 0, 1) := by decide +kernel
theorem dX12_keepsAside_6 : decode mX12_keepsAside.2.1 6 = .ok (.getfield 40, 3) := by decide +kernel
theorem dX12_keepsAside_9 : decode mX12_keepsAside.2.1 9 = .ok (.iconst 0, 1) := by decide +kernel
theorem dX12_keepsAside_10 : decode mX12_keepsAside.2.1 10 = .ok (.invokestatic 123, 3) := by decide +kernel
theorem dX12_keepsAside_13 : decode mX12_keepsAside.2.1 13 = .ok (.return_, 1) := by decide +kernel
theorem dX12_key_0 : decode mX12_key.2.1 0 = .ok (.iload_n 1, 1) := by decide +kernel
theorem dX12_key_1 : decode mX12_key.2.1 1 = .ok (.i2l, 1) := by decide +kernel
theorem dX12_key_2 : decode mX12_key.2.1 2 = .ok (.lconst 0, 1) := by decide +kernel
theorem dX12_key_3 : decode mX12_key.2.1 3 = .ok (.lconst 1, 1) := by decide +kernel
theorem dX12_key_4 : decode mX12_key.2.1 4 = .ok (.invokestatic 76, 3) := by decide +kernel
theorem dX12_key_7 : decode mX12_key.2.1 7 = .ok (.ifCond .eq 11, 3) := by decide +kernel
theorem dX12_key_10 : decode mX12_key.2.1 10 = .ok (.aload_n 0, 1) := by decide +kernel
theorem dX12_key_11 : decode mX12_key.2.1 11 = .ok (.iload_n 2, 1) := by decide +kernel
theorem dX12_key_12 : decode mX12_key.2.1 12 = .ok (.invokevirtual 232, 3) := by decide +kernel
theorem dX12_key_15 : decode mX12_key.2.1 15 = .ok (.ifCond .ne 5, 3) := by decide +kernel
theorem dX12_key_18 : decode mX12_key.2.1 18 = .ok (.iconst (-1), 1) := by decide +kernel
theorem dX12_key_19 : decode mX12_key.2.1 19 = .ok (.ireturn, 1) := by decide +kernel
theorem dX12_key_20 : decode mX12_key.2.1 20 = .ok (.aload_n 0, 1) := by decide +kernel
theorem dX12_key_21 : decode mX12_key.2.1 21 = .ok (.getfield 37, 3) := by decide +kernel
theorem dX12_key_24 : decode mX12_key.2.1 24 = .ok (.iload_n 1, 1) := by decide +kernel
theorem dX12_key_25 : decode mX12_key.2.1 25 = .ok (.ifCond .ne 9, 3) := by decide +kernel
theorem dX12_key_28 : decode mX12_key.2.1 28 = .ok (.sipush 276, 3) := by decide +kernel
theorem dX12_key_31 : decode mX12_key.2.1 31 = .ok (.goto 6, 3) := by decide +kernel
theorem dX12_key_34 : decode mX12_key.2.1 34 = .ok (.sipush 532, 3) := by decide +kernel
theorem dX12_key_37 : decode mX12_key.2.1 37 = .ok (.iload_n 2, 1) := by decide +kernel
theorem dX12_key_38 : decode mX12_key.2.1 38 = .ok (.iadd, 1) := by decide +kernel
theorem dX12_key_39 : decode mX12_key.2.1 39 = .ok (.iaload, 1) := by decide +kernel
theorem dX12_key_40 : decode mX12_key.2.1 40 = .ok (.ireturn, 1) := by decide +kernel
theorem dX12_last_0 : decode mX12_last.2.1 0 = .ok (.iload_n 1, 1) := by decide +kernel
theorem dX12_last_1 : decode mX12_last.2.1 1 = .ok (.i2l, 1) := by decide +kernel
theorem dX12_last_2 : decode mX12_last.2.1 2 = .ok (.lconst 0, 1) := by decide +kernel
theorem dX12_last_3 : decode mX12_last.2.1 3 = .ok (.lconst 1, 1) := by decide +kernel
theorem dX12_last_4 : decode mX12_last.2.1 4 = .ok (.invokestatic 76, 3) := by decide +kernel
theorem dX12_last_7 : decode mX12_last.2.1 7 = .ok (.ifCond .eq 22, 3) := by decide +kernel
theorem dX12_last_10 : decode mX12_last.2.1 10 = .ok (.iload_n 2, 1) := by decide +kernel
theorem dX12_last_11 : decode mX12_last.2.1 11 = .ok (.i2l, 1) := by decide +kernel
theorem dX12_last_12 : decode mX12_last.2.1 12 = .ok (.lconst 0, 1) := by decide +kernel
theorem dX12_last_13 : decode mX12_last.2.1 13 = .ok (.aload_n 0, 1) := by decide +kernel
theorem dX12_last_14 : decode mX12_last.2.1 14 = .ok (.getfield 37, 3) := by decide +kernel
theorem dX12_last_17 : decode mX12_last.2.1 17 = .ok (.bipush 6, 2) := by decide +kernel
theorem dX12_last_19 : decode mX12_last.2.1 19 = .ok (.iaload, 1) := by decide +kernel
theorem dX12_last_20 : decode mX12_last.2.1 20 = .ok (.iconst 1, 1) := by decide +kernel
theorem dX12_last_21 : decode mX12_last.2.1 21 = .ok (.isub, 1) := by decide +kernel
theorem dX12_last_22 : decode mX12_last.2.1 22 = .ok (.i2l, 1) := by decide +kernel
theorem dX12_last_23 : decode mX12_last.2.1 23 = .ok (.invokestatic 76, 3) := by decide +kernel
theorem dX12_last_26 : decode mX12_last.2.1 26 = .ok (.ifCond .ne 5, 3) := by decide +kernel
theorem dX12_last_29 : decode mX12_last.2.1 29 = .ok (.iconst (-1), 1) := by decide +kernel
theorem dX12_last_30 : decode mX12_last.2.1 30 = .ok (.ireturn, 1) := by decide +kernel
theorem dX12_last_31 : decode mX12_last.2.1 31 = .ok (.aload_n 0, 1) := by decide +kernel
theorem dX12_last_32 : decode mX12_last.2.1 32 = .ok (.getfield 37, 3) := by decide +kernel
theorem dX12_last_35 : decode mX12_last.2.1 35 = .ok (.iload_n 1, 1) := by decide +kernel
theorem dX12_last_36 : decode mX12_last.2.1 36 = .ok (.ifCond .ne 9, 3) := by decide +kernel
theorem dX12_last_39 : decode mX12_last.2.1 39 = .ok (.sipush 3390, 3) := by decide +kernel
theorem dX12_last_42 : decode mX12_last.2.1 42 = .ok (.goto 6, 3) := by decide +kernel
theorem dX12_last_45 : decode mX12_last.2.1 45 = .ok (.sipush 3646, 3) := by decide +kernel
theorem dX12_last_48 : decode mX12_last.2.1 48 = .ok (.iload_n 2, 1) := by decide +kernel
theorem dX12_last_49 : decode mX12_last.2.1 49 = .ok (.iadd, 1) := by decide +kernel
theorem dX12_last_50 : decode mX12_last.2.1 50 = .ok (.iaload, 1) := by decide +kernel
theorem dX12_last_51 : decode mX12_last.2.1 51 = .ok (.ireturn, 1) := by decide +kernel
theorem dX12_laysBack_0 : decode mX12_laysBack.2.1 0 = .ok (.aload_n 0, 1) := by decide +kernel
theorem dX12_laysBack_1 : decode mX12_laysBack.2.1 1 = .ok (.getfield 40, 3) := by decide +kernel
theorem dX12_laysBack_4 : decode mX12_laysBack.2.1 4 = .ok (.iconst 0, 1) := by decide +kernel
theorem dX12_laysBack_5 : decode mX12_laysBack.2.1 5 = .ok (.aload_n 0, 1) := by decide +kernel
theorem dX12_laysBack_6 : decode mX12_laysBack.2.1 6 = .ok (.getfield 37, 3) := by decide +kernel
theorem dX12_laysBack_9 : decode mX12_laysBack.2.1 9 = .ok (.iconst 0, 1) := by decide +kernel
theorem dX12_laysBack_10 : decode mX12_laysBack.2.1 10 = .ok (.invokestatic 123, 3) := by decide +kernel
theorem dX12_laysBack_13 : decode mX12_laysBack.2.1 13 = .ok (.return_, 1) := by decide +kernel
theorem dX12_laysOne_0 : decode mX12_laysOne.2.1 0 = .ok (.iconst 0, 1) := by decide +kernel
theorem dX12_laysOne_1 : decode mX12_laysOne.2.1 1 = .ok (.istore_n 2, 1) := by decide +kernel
theorem dX12_laysOne_2 : decode mX12_laysOne.2.1 2 = .ok (.iload_n 2, 1) := by decide +kernel
theorem dX12_laysOne_3 : decode mX12_laysOne.2.1 3 = .ok (.bipush 8, 2) := by decide +kernel
theorem dX12_laysOne_5 : decode mX12_laysOne.2.1 5 = .ok (.if_icmp .ge 16, 3) := by decide +kernel
theorem dX12_laysOne_8 : decode mX12_laysOne.2.1 8 = .ok (.aload_n 0, 1) := by decide +kernel
theorem dX12_laysOne_9 : decode mX12_laysOne.2.1 9 = .ok (.getfield 58, 3) := by decide +kernel
theorem dX12_laysOne_12 : decode mX12_laysOne.2.1 12 = .ok (.iload_n 2, 1) := by decide +kernel
theorem dX12_laysOne_13 : decode mX12_laysOne.2.1 13 = .ok (.iconst 0, 1) := by decide +kernel
theorem dX12_laysOne_14 : decode mX12_laysOne.2.1 14 = .ok (.iastore, 1) := by decide +kernel
theorem dX12_laysOne_15 : decode mX12_laysOne.2.1 15 = .ok (.iinc 2 1, 3) := by decide +kernel
theorem dX12_laysOne_18 : decode mX12_laysOne.2.1 18 = .ok (.goto (-16), 3) := by decide +kernel
theorem dX12_laysOne_21 : decode mX12_laysOne.2.1 21 = .ok (.aload_n 0, 1) := by decide +kernel
theorem dX12_laysOne_22 : decode mX12_laysOne.2.1 22 = .ok (.iload_n 1, 1) := by decide +kernel
theorem dX12_laysOne_23 : decode mX12_laysOne.2.1 23 = .ok (.invokevirtual 248, 3) := by decide +kernel
theorem dX12_laysOne_26 : decode mX12_laysOne.2.1 26 = .ok (.return_, 1) := by decide +kernel
theorem dX12_laysRowSet_0 : decode mX12_laysRowSet.2.1 0 = .ok (.iconst 0, 1) := by decide +kernel
theorem dX12_laysRowSet_1 : decode mX12_laysRowSet.2.1 1 = .ok (.istore_n 3, 1) := by decide +kernel
theorem dX12_laysRowSet_2 : decode mX12_laysRowSet.2.1 2 = .ok (.iload_n 3, 1) := by decide +kernel
theorem dX12_laysRowSet_3 : decode mX12_laysRowSet.2.1 3 = .ok (.aload_n 0, 1) := by decide +kernel
theorem dX12_laysRowSet_4 : decode mX12_laysRowSet.2.1 4 = .ok (.getfield 37, 3) := by decide +kernel
theorem dX12_laysRowSet_7 : decode mX12_laysRowSet.2.1 7 = .ok (.iconst 1, 1) := by decide +kernel
theorem dX12_laysRowSet_8 : decode mX12_laysRowSet.2.1 8 = .ok (.iaload, 1) := by decide +kernel
theorem dX12_laysRowSet_9 : decode mX12_laysRowSet.2.1 9 = .ok (.if_icmp .ge 28, 3) := by decide +kernel
theorem dX12_laysRowSet_12 : decode mX12_laysRowSet.2.1 12 = .ok (.aload_n 0, 1) := by decide +kernel
theorem dX12_laysRowSet_13 : decode mX12_laysRowSet.2.1 13 = .ok (.getfield 37, 3) := by decide +kernel
theorem dX12_laysRowSet_16 : decode mX12_laysRowSet.2.1 16 = .ok (.iload_n 1, 1) := by decide +kernel
theorem dX12_laysRowSet_17 : decode mX12_laysRowSet.2.1 17 = .ok (.iload_n 2, 1) := by decide +kernel
theorem dX12_laysRowSet_18 : decode mX12_laysRowSet.2.1 18 = .ok (.iadd, 1) := by decide +kernel
theorem dX12_laysRowSet_19 : decode mX12_laysRowSet.2.1 19 = .ok (.iload_n 3, 1) := by decide +kernel
theorem dX12_laysRowSet_20 : decode mX12_laysRowSet.2.1 20 = .ok (.iadd, 1) := by decide +kernel
theorem dX12_laysRowSet_21 : decode mX12_laysRowSet.2.1 21 = .ok (.iaload, 1) := by decide +kernel
theorem dX12_laysRowSet_22 : decode mX12_laysRowSet.2.1 22 = .ok (.iconst 1, 1) := by decide +kernel
theorem dX12_laysRowSet_23 : decode mX12_laysRowSet.2.1 23 = .ok (.if_icmp .ne 8, 3) := by decide +kernel
theorem dX12_laysRowSet_26 : decode mX12_laysRowSet.2.1 26 = .ok (.aload_n 0, 1) := by decide +kernel
theorem dX12_laysRowSet_27 : decode mX12_laysRowSet.2.1 27 = .ok (.iload_n 3, 1) := by decide +kernel
theorem dX12_laysRowSet_28 : decode mX12_laysRowSet.2.1 28 = .ok (.invokevirtual 248, 3) := by decide +kernel
theorem dX12_laysRowSet_31 : decode mX12_laysRowSet.2.1 31 = .ok (.iinc 3 1, 3) := by decide +kernel
theorem dX12_laysRowSet_34 : decode mX12_laysRowSet.2.1 34 = .ok (.goto (-32), 3) := by decide +kernel
theorem dX12_laysRowSet_37 : decode mX12_laysRowSet.2.1 37 = .ok (.return_, 1) := by decide +kernel
theorem dX12_laysSet_0 : decode mX12_laysSet.2.1 0 = .ok (.iconst 0, 1) := by decide +kernel
theorem dX12_laysSet_1 : decode mX12_laysSet.2.1 1 = .ok (.istore_n 2, 1) := by decide +kernel
theorem dX12_laysSet_2 : decode mX12_laysSet.2.1 2 = .ok (.iload_n 2, 1) := by decide +kernel
theorem dX12_laysSet_3 : decode mX12_laysSet.2.1 3 = .ok (.bipush 8, 2) := by decide +kernel
theorem dX12_laysSet_5 : decode mX12_laysSet.2.1 5 = .ok (.if_icmp .ge 16, 3) := by decide +kernel
theorem dX12_laysSet_8 : decode mX12_laysSet.2.1 8 = .ok (.aload_n 0, 1) := by decide +kernel
theorem dX12_laysSet_9 : decode mX12_laysSet.2.1 9 = .ok (.getfield 58, 3) := by decide +kernel
theorem dX12_laysSet_12 : decode mX12_laysSet.2.1 12 = .ok (.iload_n 2, 1) := by decide +kernel
theorem dX12_laysSet_13 : decode mX12_laysSet.2.1 13 = .ok (.iconst 0, 1) := by decide +kernel
theorem dX12_laysSet_14 : decode mX12_laysSet.2.1 14 = .ok (.iastore, 1) := by decide +kernel
theorem dX12_laysSet_15 : decode mX12_laysSet.2.1 15 = .ok (.iinc 2 1, 3) := by decide +kernel
theorem dX12_laysSet_18 : decode mX12_laysSet.2.1 18 = .ok (.goto (-16), 3) := by decide +kernel
theorem dX12_laysSet_21 : decode mX12_laysSet.2.1 21 = .ok (.aload_n 0, 1) := by decide +kernel
theorem dX12_laysSet_22 : decode mX12_laysSet.2.1 22 = .ok (.iload_n 1, 1) := by decide +kernel
theorem dX12_laysSet_23 : decode mX12_laysSet.2.1 23 = .ok (.bipush 9, 2) := by decide +kernel
theorem dX12_laysSet_25 : decode mX12_laysSet.2.1 25 = .ok (.bipush 9, 2) := by decide +kernel
theorem dX12_laysSet_27 : decode mX12_laysSet.2.1 27 = .ok (.invokevirtual 251, 3) := by decide +kernel
theorem dX12_laysSet_30 : decode mX12_laysSet.2.1 30 = .ok (.istore_n 2, 1) := by decide +kernel
theorem dX12_laysSet_31 : decode mX12_laysSet.2.1 31 = .ok (.aload_n 0, 1) := by decide +kernel
theorem dX12_laysSet_32 : decode mX12_laysSet.2.1 32 = .ok (.iload_n 1, 1) := by decide +kernel
theorem dX12_laysSet_33 : decode mX12_laysSet.2.1 33 = .ok (.bipush 18, 2) := by decide +kernel
theorem dX12_laysSet_35 : decode mX12_laysSet.2.1 35 = .ok (.bipush 9, 2) := by decide +kernel
theorem dX12_laysSet_37 : decode mX12_laysSet.2.1 37 = .ok (.invokevirtual 251, 3) := by decide +kernel
theorem dX12_laysSet_40 : decode mX12_laysSet.2.1 40 = .ok (.istore_n 3, 1) := by decide +kernel
theorem dX12_laysSet_41 : decode mX12_laysSet.2.1 41 = .ok (.aload_n 0, 1) := by decide +kernel
theorem dX12_laysSet_42 : decode mX12_laysSet.2.1 42 = .ok (.iload_n 1, 1) := by decide +kernel
theorem dX12_laysSet_43 : decode mX12_laysSet.2.1 43 = .ok (.invokevirtual 254, 3) := by decide +kernel
theorem dX12_laysSet_46 : decode mX12_laysSet.2.1 46 = .ok (.lookupswitch 116 #[(0, 26), (1, 72)], 26) := by decide +kernel
theorem dX12_laysSet_72 : decode mX12_laysSet.2.1 72 = .ok (.iload_n 2, 1) := by decide +kernel
theorem dX12_laysSet_73 : decode mX12_laysSet.2.1 73 = .ok (.istore 4, 2) := by decide +kernel
theorem dX12_laysSet_75 : decode mX12_laysSet.2.1 75 = .ok (.iload 4, 2) := by decide +kernel
theorem dX12_laysSet_77 : decode mX12_laysSet.2.1 77 = .ok (.iload_n 2, 1) := by decide +kernel
theorem dX12_laysSet_78 : decode mX12_laysSet.2.1 78 = .ok (.iload_n 3, 1) := by decide +kernel
theorem dX12_laysSet_79 : decode mX12_laysSet.2.1 79 = .ok (.iadd, 1) := by decide +kernel
theorem dX12_laysSet_80 : decode mX12_laysSet.2.1 80 = .ok (.if_icmp .ge 37, 3) := by decide +kernel
theorem dX12_laysSet_83 : decode mX12_laysSet.2.1 83 = .ok (.aload_n 0, 1) := by decide +kernel
theorem dX12_laysSet_84 : decode mX12_laysSet.2.1 84 = .ok (.aload_n 0, 1) := by decide +kernel
theorem dX12_laysSet_85 : decode mX12_laysSet.2.1 85 = .ok (.getfield 37, 3) := by decide +kernel
theorem dX12_laysSet_88 : decode mX12_laysSet.2.1 88 = .ok (.sipush 1044, 3) := by decide +kernel
theorem dX12_laysSet_91 : decode mX12_laysSet.2.1 91 = .ok (.sipush 256, 3) := by decide +kernel
theorem dX12_laysSet_94 : decode mX12_laysSet.2.1 94 = .ok (.aload_n 0, 1) := by decide +kernel
theorem dX12_laysSet_95 : decode mX12_laysSet.2.1 95 = .ok (.iload_n 1, 1) := by decide +kernel
theorem dX12_laysSet_96 : decode mX12_laysSet.2.1 96 = .ok (.bipush 6, 2) := by decide +kernel
theorem dX12_laysSet_98 : decode mX12_laysSet.2.1 98 = .ok (.iconst 3, 1) := by decide +kernel
theorem dX12_laysSet_99 : decode mX12_laysSet.2.1 99 = .ok (.invokevirtual 251, 3) := by decide +kernel
theorem dX12_laysSet_102 : decode mX12_laysSet.2.1 102 = .ok (.imul, 1) := by decide +kernel
theorem dX12_laysSet_103 : decode mX12_laysSet.2.1 103 = .ok (.iadd, 1) := by decide +kernel
theorem dX12_laysSet_104 : decode mX12_laysSet.2.1 104 = .ok (.iload 4, 2) := by decide +kernel
theorem dX12_laysSet_106 : decode mX12_laysSet.2.1 106 = .ok (.iadd, 1) := by decide +kernel
theorem dX12_laysSet_107 : decode mX12_laysSet.2.1 107 = .ok (.iaload, 1) := by decide +kernel
theorem dX12_laysSet_108 : decode mX12_laysSet.2.1 108 = .ok (.invokevirtual 248, 3) := by decide +kernel
theorem dX12_laysSet_111 : decode mX12_laysSet.2.1 111 = .ok (.iinc 4 1, 3) := by decide +kernel
theorem dX12_laysSet_114 : decode mX12_laysSet.2.1 114 = .ok (.goto (-39), 3) := by decide +kernel
theorem dX12_laysSet_117 : decode mX12_laysSet.2.1 117 = .ok (.return_, 1) := by decide +kernel
theorem dX12_laysSet_118 : decode mX12_laysSet.2.1 118 = .ok (.iconst 0, 1) := by decide +kernel
theorem dX12_laysSet_119 : decode mX12_laysSet.2.1 119 = .ok (.istore 4, 2) := by decide +kernel
theorem dX12_laysSet_121 : decode mX12_laysSet.2.1 121 = .ok (.iload 4, 2) := by decide +kernel
theorem dX12_laysSet_123 : decode mX12_laysSet.2.1 123 = .ok (.bipush 8, 2) := by decide +kernel
theorem dX12_laysSet_125 : decode mX12_laysSet.2.1 125 = .ok (.if_icmp .ge 36, 3) := by decide +kernel
theorem dX12_laysSet_128 : decode mX12_laysSet.2.1 128 = .ok (.iload_n 3, 1) := by decide +kernel
theorem dX12_laysSet_129 : decode mX12_laysSet.2.1 129 = .ok (.ifCond .eq 15, 3) := by decide +kernel
theorem dX12_laysSet_132 : decode mX12_laysSet.2.1 132 = .ok (.iload 4, 2) := by decide +kernel
theorem dX12_laysSet_134 : decode mX12_laysSet.2.1 134 = .ok (.iload_n 3, 1) := by decide +kernel
theorem dX12_laysSet_135 : decode mX12_laysSet.2.1 135 = .ok (.iconst 1, 1) := by decide +kernel
theorem dX12_laysSet_136 : decode mX12_laysSet.2.1 136 = .ok (.isub, 1) := by decide +kernel
theorem dX12_laysSet_137 : decode mX12_laysSet.2.1 137 = .ok (.ishr, 1) := by decide +kernel
theorem dX12_laysSet_138 : decode mX12_laysSet.2.1 138 = .ok (.iconst 1, 1) := by decide +kernel
theorem dX12_laysSet_139 : decode mX12_laysSet.2.1 139 = .ok (.iand, 1) := by decide +kernel
theorem dX12_laysSet_140 : decode mX12_laysSet.2.1 140 = .ok (.iconst 1, 1) := by decide +kernel
theorem dX12_laysSet_141 : decode mX12_laysSet.2.1 141 = .ok (.if_icmp .ne 14, 3) := by decide +kernel
theorem dX12_laysSet_144 : decode mX12_laysSet.2.1 144 = .ok (.aload_n 0, 1) := by decide +kernel
theorem dX12_laysSet_145 : decode mX12_laysSet.2.1 145 = .ok (.bipush 8, 2) := by decide +kernel
theorem dX12_laysSet_147 : decode mX12_laysSet.2.1 147 = .ok (.iload_n 2, 1) := by decide +kernel
theorem dX12_laysSet_148 : decode mX12_laysSet.2.1 148 = .ok (.imul, 1) := by decide +kernel
theorem dX12_laysSet_149 : decode mX12_laysSet.2.1 149 = .ok (.iload 4, 2) := by decide +kernel
theorem dX12_laysSet_151 : decode mX12_laysSet.2.1 151 = .ok (.iadd, 1) := by decide +kernel
theorem dX12_laysSet_152 : decode mX12_laysSet.2.1 152 = .ok (.invokevirtual 248, 3) := by decide +kernel
theorem dX12_laysSet_155 : decode mX12_laysSet.2.1 155 = .ok (.iinc 4 1, 3) := by decide +kernel
theorem dX12_laysSet_158 : decode mX12_laysSet.2.1 158 = .ok (.goto (-37), 3) := by decide +kernel
theorem dX12_laysSet_161 : decode mX12_laysSet.2.1 161 = .ok (.return_, 1) := by decide +kernel
theorem dX12_laysSet_162 : decode mX12_laysSet.2.1 162 = .ok (.aload_n 0, 1) := by decide +kernel
theorem dX12_laysSet_163 : decode mX12_laysSet.2.1 163 = .ok (.sipush 2580, 3) := by decide +kernel
theorem dX12_laysSet_166 : decode mX12_laysSet.2.1 166 = .ok (.iload_n 2, 1) := by decide +kernel
theorem dX12_laysSet_167 : decode mX12_laysSet.2.1 167 = .ok (.invokevirtual 257, 3) := by decide +kernel
theorem dX12_laysSet_170 : decode mX12_laysSet.2.1 170 = .ok (.return_, 1) := by decide +kernel
theorem dX12_leastInSet_0 : decode mX12_leastInSet.2.1 0 = .ok (.iconst 0, 1) := by decide +kernel
theorem dX12_leastInSet_1 : decode mX12_leastInSet.2.1 1 = .ok (.istore_n 1, 1) := by decide +kernel
theorem dX12_leastInSet_2 : decode mX12_leastInSet.2.1 2 = .ok (.iload_n 1, 1) := by decide +kernel
theorem dX12_leastInSet_3 : decode mX12_leastInSet.2.1 3 = .ok (.aload_n 0, 1) := by decide +kernel
theorem dX12_leastInSet_4 : decode mX12_leastInSet.2.1 4 = .ok (.getfield 37, 3) := by decide +kernel
theorem dX12_leastInSet_7 : decode mX12_leastInSet.2.1 7 = .ok (.iconst 1, 1) := by decide +kernel
theorem dX12_leastInSet_8 : decode mX12_leastInSet.2.1 8 = .ok (.iaload, 1) := by decide +kernel
theorem dX12_leastInSet_9 : decode mX12_leastInSet.2.1 9 = .ok (.if_icmp .ge 19, 3) := by decide +kernel
theorem dX12_leastInSet_12 : decode mX12_leastInSet.2.1 12 = .ok (.aload_n 0, 1) := by decide +kernel
theorem dX12_leastInSet_13 : decode mX12_leastInSet.2.1 13 = .ok (.iload_n 1, 1) := by decide +kernel
theorem dX12_leastInSet_14 : decode mX12_leastInSet.2.1 14 = .ok (.invokevirtual 260, 3) := by decide +kernel
theorem dX12_leastInSet_17 : decode mX12_leastInSet.2.1 17 = .ok (.ifCond .eq 5, 3) := by decide +kernel
theorem dX12_leastInSet_20 : decode mX12_leastInSet.2.1 20 = .ok (.iload_n 1, 1) := by decide +kernel
theorem dX12_leastInSet_21 : decode mX12_leastInSet.2.1 21 = .ok (.ireturn, 1) := by decide +kernel
theorem dX12_leastInSet_22 : decode mX12_leastInSet.2.1 22 = .ok (.iinc 1 1, 3) := by decide +kernel
theorem dX12_leastInSet_25 : decode mX12_leastInSet.2.1 25 = .ok (.goto (-23), 3) := by decide +kernel
theorem dX12_leastInSet_28 : decode mX12_leastInSet.2.1 28 = .ok (.iconst (-1), 1) := by decide +kernel
theorem dX12_leastInSet_29 : decode mX12_leastInSet.2.1 29 = .ok (.ireturn, 1) := by decide +kernel
theorem dX12_ledger_0 : decode mX12_ledger.2.1 0 = .ok (.aload_n 0, 1) := by decide +kernel
theorem dX12_ledger_1 : decode mX12_ledger.2.1 1 = .ok (.iload_n 1, 1) := by decide +kernel
theorem dX12_ledger_2 : decode mX12_ledger.2.1 2 = .ok (.invokevirtual 263, 3) := by decide +kernel
theorem dX12_ledger_5 : decode mX12_ledger.2.1 5 = .ok (.ifCond .eq 15, 3) := by decide +kernel
theorem dX12_ledger_8 : decode mX12_ledger.2.1 8 = .ok (.iload_n 2, 1) := by decide +kernel
theorem dX12_ledger_9 : decode mX12_ledger.2.1 9 = .ok (.i2l, 1) := by decide +kernel
theorem dX12_ledger_10 : decode mX12_ledger.2.1 10 = .ok (.lconst 0, 1) := by decide +kernel
theorem dX12_ledger_11 : decode mX12_ledger.2.1 11 = .ok (.ldc2_w 235, 3) := by decide +kernel
theorem dX12_ledger_14 : decode mX12_ledger.2.1 14 = .ok (.invokestatic 76, 3) := by decide +kernel
theorem dX12_ledger_17 : decode mX12_ledger.2.1 17 = .ok (.ifCond .ne 5, 3) := by decide +kernel
theorem dX12_ledger_20 : decode mX12_ledger.2.1 20 = .ok (.iconst (-1), 1) := by decide +kernel
theorem dX12_ledger_21 : decode mX12_ledger.2.1 21 = .ok (.ireturn, 1) := by decide +kernel
theorem dX12_ledger_22 : decode mX12_ledger.2.1 22 = .ok (.aload_n 0, 1) := by decide +kernel
theorem dX12_ledger_23 : decode mX12_ledger.2.1 23 = .ok (.iload_n 1, 1) := by decide +kernel
theorem dX12_ledger_24 : decode mX12_ledger.2.1 24 = .ok (.invokevirtual 266, 3) := by decide +kernel
theorem dX12_ledger_27 : decode mX12_ledger.2.1 27 = .ok (.iload_n 2, 1) := by decide +kernel
theorem dX12_ledger_28 : decode mX12_ledger.2.1 28 = .ok (.tableswitch 76 0 2 #[28, 36, 41], 28) := by decide +kernel
theorem dX12_ledger_56 : decode mX12_ledger.2.1 56 = .ok (.aload_n 0, 1) := by decide +kernel
theorem dX12_ledger_57 : decode mX12_ledger.2.1 57 = .ok (.iload_n 1, 1) := by decide +kernel
theorem dX12_ledger_58 : decode mX12_ledger.2.1 58 = .ok (.iconst 2, 1) := by decide +kernel
theorem dX12_ledger_59 : decode mX12_ledger.2.1 59 = .ok (.iconst 1, 1) := by decide +kernel
theorem dX12_ledger_60 : decode mX12_ledger.2.1 60 = .ok (.invokevirtual 251, 3) := by decide +kernel
theorem dX12_ledger_63 : decode mX12_ledger.2.1 63 = .ok (.ireturn, 1) := by decide +kernel
theorem dX12_ledger_64 : decode mX12_ledger.2.1 64 = .ok (.aload_n 0, 1) := by decide +kernel
theorem dX12_ledger_65 : decode mX12_ledger.2.1 65 = .ok (.invokevirtual 269, 3) := by decide +kernel
theorem dX12_ledger_68 : decode mX12_ledger.2.1 68 = .ok (.ireturn, 1) := by decide +kernel
theorem dX12_ledger_69 : decode mX12_ledger.2.1 69 = .ok (.aload_n 0, 1) := by decide +kernel
theorem dX12_ledger_70 : decode mX12_ledger.2.1 70 = .ok (.iload_n 1, 1) := by decide +kernel
theorem dX12_ledger_71 : decode mX12_ledger.2.1 71 = .ok (.invokevirtual 254, 3) := by decide +kernel
theorem dX12_ledger_74 : decode mX12_ledger.2.1 74 = .ok (.ifCond .ne 14, 3) := by decide +kernel
theorem dX12_ledger_77 : decode mX12_ledger.2.1 77 = .ok (.aload_n 0, 1) := by decide +kernel
theorem dX12_ledger_78 : decode mX12_ledger.2.1 78 = .ok (.iload_n 1, 1) := by decide +kernel
theorem dX12_ledger_79 : decode mX12_ledger.2.1 79 = .ok (.bipush 6, 2) := by decide +kernel
theorem dX12_ledger_81 : decode mX12_ledger.2.1 81 = .ok (.iconst 3, 1) := by decide +kernel
theorem dX12_ledger_82 : decode mX12_ledger.2.1 82 = .ok (.invokevirtual 251, 3) := by decide +kernel
theorem dX12_ledger_85 : decode mX12_ledger.2.1 85 = .ok (.goto 18, 3) := by decide +kernel
theorem dX12_ledger_88 : decode mX12_ledger.2.1 88 = .ok (.aload_n 0, 1) := by decide +kernel
theorem dX12_ledger_89 : decode mX12_ledger.2.1 89 = .ok (.iload_n 1, 1) := by decide +kernel
theorem dX12_ledger_90 : decode mX12_ledger.2.1 90 = .ok (.invokevirtual 254, 3) := by decide +kernel
theorem dX12_ledger_93 : decode mX12_ledger.2.1 93 = .ok (.iconst 1, 1) := by decide +kernel
theorem dX12_ledger_94 : decode mX12_ledger.2.1 94 = .ok (.if_icmp .ne 8, 3) := by decide +kernel
theorem dX12_ledger_97 : decode mX12_ledger.2.1 97 = .ok (.bipush (-2), 2) := by decide +kernel
theorem dX12_ledger_99 : decode mX12_ledger.2.1 99 = .ok (.goto 4, 3) := by decide +kernel
theorem dX12_ledger_102 : decode mX12_ledger.2.1 102 = .ok (.iconst (-1), 1) := by decide +kernel
theorem dX12_ledger_103 : decode mX12_ledger.2.1 103 = .ok (.ireturn, 1) := by decide +kernel
theorem dX12_ledger_104 : decode mX12_ledger.2.1 104 = .ok (.aload_n 0, 1) := by decide +kernel
theorem dX12_ledger_105 : decode mX12_ledger.2.1 105 = .ok (.invokevirtual 272, 3) := by decide +kernel
theorem dX12_ledger_108 : decode mX12_ledger.2.1 108 = .ok (.ireturn, 1) := by decide +kernel
theorem dX12_longOf_0 : decode mX12_longOf.2.1 0 = .ok (.aload_n 0, 1) := by decide +kernel
theorem dX12_longOf_1 : decode mX12_longOf.2.1 1 = .ok (.getfield 37, 3) := by decide +kernel
theorem dX12_longOf_4 : decode mX12_longOf.2.1 4 = .ok (.iconst 1, 1) := by decide +kernel
theorem dX12_longOf_5 : decode mX12_longOf.2.1 5 = .ok (.iaload, 1) := by decide +kernel
theorem dX12_longOf_6 : decode mX12_longOf.2.1 6 = .ok (.iload_n 2, 1) := by decide +kernel
theorem dX12_longOf_7 : decode mX12_longOf.2.1 7 = .ok (.isub, 1) := by decide +kernel
theorem dX12_longOf_8 : decode mX12_longOf.2.1 8 = .ok (.istore_n 3, 1) := by decide +kernel
theorem dX12_longOf_9 : decode mX12_longOf.2.1 9 = .ok (.iload_n 3, 1) := by decide +kernel
theorem dX12_longOf_10 : decode mX12_longOf.2.1 10 = .ok (.aload_n 0, 1) := by decide +kernel
theorem dX12_longOf_11 : decode mX12_longOf.2.1 11 = .ok (.iload_n 1, 1) := by decide +kernel
theorem dX12_longOf_12 : decode mX12_longOf.2.1 12 = .ok (.invokevirtual 179, 3) := by decide +kernel
theorem dX12_longOf_15 : decode mX12_longOf.2.1 15 = .ok (.if_icmp .ge 7, 3) := by decide +kernel
theorem dX12_longOf_18 : decode mX12_longOf.2.1 18 = .ok (.iload_n 3, 1) := by decide +kernel
theorem dX12_longOf_19 : decode mX12_longOf.2.1 19 = .ok (.goto 8, 3) := by decide +kernel
theorem dX12_longOf_22 : decode mX12_longOf.2.1 22 = .ok (.aload_n 0, 1) := by decide +kernel
theorem dX12_longOf_23 : decode mX12_longOf.2.1 23 = .ok (.iload_n 1, 1) := by decide +kernel
theorem dX12_longOf_24 : decode mX12_longOf.2.1 24 = .ok (.invokevirtual 179, 3) := by decide +kernel
theorem dX12_longOf_27 : decode mX12_longOf.2.1 27 = .ok (.ireturn, 1) := by decide +kernel
theorem dX12_mends_0 : decode mX12_mends.2.1 0 = .ok (.aload_n 0, 1) := by decide +kernel
theorem dX12_mends_1 : decode mX12_mends.2.1 1 = .ok (.getfield 37, 3) := by decide +kernel
theorem dX12_mends_4 : decode mX12_mends.2.1 4 = .ok (.sipush 532, 3) := by decide +kernel
theorem dX12_mends_7 : decode mX12_mends.2.1 7 = .ok (.iload_n 1, 1) := by decide +kernel
theorem dX12_mends_8 : decode mX12_mends.2.1 8 = .ok (.iadd, 1) := by decide +kernel
theorem dX12_mends_9 : decode mX12_mends.2.1 9 = .ok (.iconst 1, 1) := by decide +kernel
theorem dX12_mends_10 : decode mX12_mends.2.1 10 = .ok (.aload_n 0, 1) := by decide +kernel
theorem dX12_mends_11 : decode mX12_mends.2.1 11 = .ok (.getfield 37, 3) := by decide +kernel
theorem dX12_mends_14 : decode mX12_mends.2.1 14 = .ok (.sipush 532, 3) := by decide +kernel
theorem dX12_mends_17 : decode mX12_mends.2.1 17 = .ok (.iload_n 1, 1) := by decide +kernel
theorem dX12_mends_18 : decode mX12_mends.2.1 18 = .ok (.iadd, 1) := by decide +kernel
theorem dX12_mends_19 : decode mX12_mends.2.1 19 = .ok (.iaload, 1) := by decide +kernel
theorem dX12_mends_20 : decode mX12_mends.2.1 20 = .ok (.isub, 1) := by decide +kernel
theorem dX12_mends_21 : decode mX12_mends.2.1 21 = .ok (.iastore, 1) := by decide +kernel
theorem dX12_mends_22 : decode mX12_mends.2.1 22 = .ok (.aload_n 0, 1) := by decide +kernel
theorem dX12_mends_23 : decode mX12_mends.2.1 23 = .ok (.getfield 37, 3) := by decide +kernel
theorem dX12_mends_26 : decode mX12_mends.2.1 26 = .ok (.bipush 7, 2) := by decide +kernel
theorem dX12_mends_28 : decode mX12_mends.2.1 28 = .ok (.dup2, 1) := by decide +kernel
theorem dX12_mends_29 : decode mX12_mends.2.1 29 = .ok (.iaload, 1) := by decide +kernel
theorem dX12_mends_30 : decode mX12_mends.2.1 30 = .ok (.iconst 1, 1) := by decide +kernel
theorem dX12_mends_31 : decode mX12_mends.2.1 31 = .ok (.iadd, 1) := by decide +kernel
theorem dX12_mends_32 : decode mX12_mends.2.1 32 = .ok (.iastore, 1) := by decide +kernel
theorem dX12_mends_33 : decode mX12_mends.2.1 33 = .ok (.return_, 1) := by decide +kernel
theorem dX12_next_0 : decode mX12_next.2.1 0 = .ok (.aload_n 0, 1) := by decide +kernel
theorem dX12_next_1 : decode mX12_next.2.1 1 = .ok (.aload_n 0, 1) := by decide +kernel
theorem dX12_next_2 : decode mX12_next.2.1 2 = .ok (.getfield 83, 3) := by decide +kernel
theorem dX12_next_5 : decode mX12_next.2.1 5 = .ok (.invokevirtual 86, 3) := by decide +kernel
theorem dX12_next_8 : decode mX12_next.2.1 8 = .ok (.bipush 32, 2) := by decide +kernel
theorem dX12_next_10 : decode mX12_next.2.1 10 = .ok (.if_icmp .ne 16, 3) := by decide +kernel
theorem dX12_next_13 : decode mX12_next.2.1 13 = .ok (.aload_n 0, 1) := by decide +kernel
theorem dX12_next_14 : decode mX12_next.2.1 14 = .ok (.dup, 1) := by decide +kernel
theorem dX12_next_15 : decode mX12_next.2.1 15 = .ok (.getfield 83, 3) := by decide +kernel
theorem dX12_next_18 : decode mX12_next.2.1 18 = .ok (.iconst 1, 1) := by decide +kernel
theorem dX12_next_19 : decode mX12_next.2.1 19 = .ok (.iadd, 1) := by decide +kernel
theorem dX12_next_20 : decode mX12_next.2.1 20 = .ok (.putfield 83, 3) := by decide +kernel
theorem dX12_next_23 : decode mX12_next.2.1 23 = .ok (.goto (-23), 3) := by decide +kernel
theorem dX12_next_26 : decode mX12_next.2.1 26 = .ok (.aload_n 0, 1) := by decide +kernel
theorem dX12_next_27 : decode mX12_next.2.1 27 = .ok (.aload_n 0, 1) := by decide +kernel
theorem dX12_next_28 : decode mX12_next.2.1 28 = .ok (.getfield 83, 3) := by decide +kernel
theorem dX12_next_31 : decode mX12_next.2.1 31 = .ok (.invokevirtual 86, 3) := by decide +kernel
theorem dX12_next_34 : decode mX12_next.2.1 34 = .ok (.ireturn, 1) := by decide +kernel
theorem dX12_noise_0 : decode mX12_noise.2.1 0 = .ok (.iload_n 1, 1) := by decide +kernel
theorem dX12_noise_1 : decode mX12_noise.2.1 1 = .ok (.i2l, 1) := by decide +kernel
theorem dX12_noise_2 : decode mX12_noise.2.1 2 = .ok (.lconst 1, 1) := by decide +kernel
theorem dX12_noise_3 : decode mX12_noise.2.1 3 = .ok (.ldc2_w 314, 3) := by decide +kernel
theorem dX12_noise_6 : decode mX12_noise.2.1 6 = .ok (.invokestatic 76, 3) := by decide +kernel
theorem dX12_noise_9 : decode mX12_noise.2.1 9 = .ok (.ifCond .ne 5, 3) := by decide +kernel
theorem dX12_noise_12 : decode mX12_noise.2.1 12 = .ok (.iconst (-1), 1) := by decide +kernel
theorem dX12_noise_13 : decode mX12_noise.2.1 13 = .ok (.ireturn, 1) := by decide +kernel
theorem dX12_noise_14 : decode mX12_noise.2.1 14 = .ok (.aload_n 0, 1) := by decide +kernel
theorem dX12_noise_15 : decode mX12_noise.2.1 15 = .ok (.invokevirtual 305, 3) := by decide +kernel
theorem dX12_noise_18 : decode mX12_noise.2.1 18 = .ok (.aload_n 0, 1) := by decide +kernel
theorem dX12_noise_19 : decode mX12_noise.2.1 19 = .ok (.getfield 27, 3) := by decide +kernel
theorem dX12_noise_22 : decode mX12_noise.2.1 22 = .ok (.iconst 2, 1) := by decide +kernel
theorem dX12_noise_23 : decode mX12_noise.2.1 23 = .ok (.iaload, 1) := by decide +kernel
theorem dX12_noise_24 : decode mX12_noise.2.1 24 = .ok (.istore_n 2, 1) := by decide +kernel
theorem dX12_noise_25 : decode mX12_noise.2.1 25 = .ok (.bipush (-2), 2) := by decide +kernel
theorem dX12_noise_27 : decode mX12_noise.2.1 27 = .ok (.istore_n 3, 1) := by decide +kernel
theorem dX12_noise_28 : decode mX12_noise.2.1 28 = .ok (.sipush 500, 3) := by decide +kernel
theorem dX12_noise_31 : decode mX12_noise.2.1 31 = .ok (.istore 4, 2) := by decide +kernel
theorem dX12_noise_33 : decode mX12_noise.2.1 33 = .ok (.iload 4, 2) := by decide +kernel
theorem dX12_noise_35 : decode mX12_noise.2.1 35 = .ok (.ifCond .lt 32, 3) := by decide +kernel
theorem dX12_noise_38 : decode mX12_noise.2.1 38 = .ok (.iload_n 3, 1) := by decide +kernel
theorem dX12_noise_39 : decode mX12_noise.2.1 39 = .ok (.ifCond .ge 28, 3) := by decide +kernel
theorem dX12_noise_42 : decode mX12_noise.2.1 42 = .ok (.aload_n 0, 1) := by decide +kernel
theorem dX12_noise_43 : decode mX12_noise.2.1 43 = .ok (.getfield 27, 3) := by decide +kernel
theorem dX12_noise_46 : decode mX12_noise.2.1 46 = .ok (.iconst 2, 1) := by decide +kernel
theorem dX12_noise_47 : decode mX12_noise.2.1 47 = .ok (.iload 4, 2) := by decide +kernel
theorem dX12_noise_49 : decode mX12_noise.2.1 49 = .ok (.iastore, 1) := by decide +kernel
theorem dX12_noise_50 : decode mX12_noise.2.1 50 = .ok (.aload_n 0, 1) := by decide +kernel
theorem dX12_noise_51 : decode mX12_noise.2.1 51 = .ok (.iload_n 1, 1) := by decide +kernel
theorem dX12_noise_52 : decode mX12_noise.2.1 52 = .ok (.invokevirtual 322, 3) := by decide +kernel
theorem dX12_noise_55 : decode mX12_noise.2.1 55 = .ok (.ifCond .eq 6, 3) := by decide +kernel
theorem dX12_noise_58 : decode mX12_noise.2.1 58 = .ok (.iload 4, 2) := by decide +kernel
theorem dX12_noise_60 : decode mX12_noise.2.1 60 = .ok (.istore_n 3, 1) := by decide +kernel
theorem dX12_noise_61 : decode mX12_noise.2.1 61 = .ok (.iinc 4 (-10), 3) := by decide +kernel
theorem dX12_noise_64 : decode mX12_noise.2.1 64 = .ok (.goto (-31), 3) := by decide +kernel
theorem dX12_noise_67 : decode mX12_noise.2.1 67 = .ok (.aload_n 0, 1) := by decide +kernel
theorem dX12_noise_68 : decode mX12_noise.2.1 68 = .ok (.getfield 27, 3) := by decide +kernel
theorem dX12_noise_71 : decode mX12_noise.2.1 71 = .ok (.iconst 2, 1) := by decide +kernel
theorem dX12_noise_72 : decode mX12_noise.2.1 72 = .ok (.iload_n 2, 1) := by decide +kernel
theorem dX12_noise_73 : decode mX12_noise.2.1 73 = .ok (.iastore, 1) := by decide +kernel
theorem dX12_noise_74 : decode mX12_noise.2.1 74 = .ok (.aload_n 0, 1) := by decide +kernel
theorem dX12_noise_75 : decode mX12_noise.2.1 75 = .ok (.invokevirtual 308, 3) := by decide +kernel
theorem dX12_noise_78 : decode mX12_noise.2.1 78 = .ok (.iload_n 3, 1) := by decide +kernel
theorem dX12_noise_79 : decode mX12_noise.2.1 79 = .ok (.ireturn, 1) := by decide +kernel
theorem dX12_ofSignal_0 : decode mX12_ofSignal.2.1 0 = .ok (.aload_n 0, 1) := by decide +kernel
theorem dX12_ofSignal_1 : decode mX12_ofSignal.2.1 1 = .ok (.getfield 37, 3) := by decide +kernel
theorem dX12_ofSignal_4 : decode mX12_ofSignal.2.1 4 = .ok (.bipush 20, 2) := by decide +kernel
theorem dX12_ofSignal_6 : decode mX12_ofSignal.2.1 6 = .ok (.iload_n 1, 1) := by decide +kernel
theorem dX12_ofSignal_7 : decode mX12_ofSignal.2.1 7 = .ok (.iadd, 1) := by decide +kernel
theorem dX12_ofSignal_8 : decode mX12_ofSignal.2.1 8 = .ok (.iaload, 1) := by decide +kernel
theorem dX12_ofSignal_9 : decode mX12_ofSignal.2.1 9 = .ok (.iload_n 2, 1) := by decide +kernel
theorem dX12_ofSignal_10 : decode mX12_ofSignal.2.1 10 = .ok (.ishr, 1) := by decide +kernel
theorem dX12_ofSignal_11 : decode mX12_ofSignal.2.1 11 = .ok (.iconst 1, 1) := by decide +kernel
theorem dX12_ofSignal_12 : decode mX12_ofSignal.2.1 12 = .ok (.iand, 1) := by decide +kernel
theorem dX12_ofSignal_13 : decode mX12_ofSignal.2.1 13 = .ok (.ireturn, 1) := by decide +kernel
theorem dX12_order_0 : decode mX12_order.2.1 0 = .ok (.aload_n 0, 1) := by decide +kernel
theorem dX12_order_1 : decode mX12_order.2.1 1 = .ok (.iload_n 1, 1) := by decide +kernel
theorem dX12_order_2 : decode mX12_order.2.1 2 = .ok (.invokevirtual 245, 3) := by decide +kernel
theorem dX12_order_5 : decode mX12_order.2.1 5 = .ok (.ifCond .eq 30, 3) := by decide +kernel
theorem dX12_order_8 : decode mX12_order.2.1 8 = .ok (.aload_n 0, 1) := by decide +kernel
theorem dX12_order_9 : decode mX12_order.2.1 9 = .ok (.iload_n 2, 1) := by decide +kernel
theorem dX12_order_10 : decode mX12_order.2.1 10 = .ok (.invokevirtual 232, 3) := by decide +kernel
theorem dX12_order_13 : decode mX12_order.2.1 13 = .ok (.ifCond .eq 22, 3) := by decide +kernel
theorem dX12_order_16 : decode mX12_order.2.1 16 = .ok (.aload_n 0, 1) := by decide +kernel
theorem dX12_order_17 : decode mX12_order.2.1 17 = .ok (.getfield 37, 3) := by decide +kernel
theorem dX12_order_20 : decode mX12_order.2.1 20 = .ok (.sipush 1044, 3) := by decide +kernel
theorem dX12_order_23 : decode mX12_order.2.1 23 = .ok (.sipush 256, 3) := by decide +kernel
theorem dX12_order_26 : decode mX12_order.2.1 26 = .ok (.iload_n 1, 1) := by decide +kernel
theorem dX12_order_27 : decode mX12_order.2.1 27 = .ok (.imul, 1) := by decide +kernel
theorem dX12_order_28 : decode mX12_order.2.1 28 = .ok (.iadd, 1) := by decide +kernel
theorem dX12_order_29 : decode mX12_order.2.1 29 = .ok (.iload_n 2, 1) := by decide +kernel
theorem dX12_order_30 : decode mX12_order.2.1 30 = .ok (.iadd, 1) := by decide +kernel
theorem dX12_order_31 : decode mX12_order.2.1 31 = .ok (.iaload, 1) := by decide +kernel
theorem dX12_order_32 : decode mX12_order.2.1 32 = .ok (.goto 4, 3) := by decide +kernel
theorem dX12_order_35 : decode mX12_order.2.1 35 = .ok (.iconst (-1), 1) := by decide +kernel
theorem dX12_order_36 : decode mX12_order.2.1 36 = .ok (.ireturn, 1) := by decide +kernel
theorem dX12_parityByRow_0 : decode mX12_parityByRow.2.1 0 = .ok (.iconst 0, 1) := by decide +kernel
theorem dX12_parityByRow_1 : decode mX12_parityByRow.2.1 1 = .ok (.istore 4, 2) := by decide +kernel
theorem dX12_parityByRow_3 : decode mX12_parityByRow.2.1 3 = .ok (.iconst 0, 1) := by decide +kernel
theorem dX12_parityByRow_4 : decode mX12_parityByRow.2.1 4 = .ok (.istore 5, 2) := by decide +kernel
theorem dX12_parityByRow_6 : decode mX12_parityByRow.2.1 6 = .ok (.iload 5, 2) := by decide +kernel
theorem dX12_parityByRow_8 : decode mX12_parityByRow.2.1 8 = .ok (.aload_n 0, 1) := by decide +kernel
theorem dX12_parityByRow_9 : decode mX12_parityByRow.2.1 9 = .ok (.getfield 37, 3) := by decide +kernel
theorem dX12_parityByRow_12 : decode mX12_parityByRow.2.1 12 = .ok (.iconst 1, 1) := by decide +kernel
theorem dX12_parityByRow_13 : decode mX12_parityByRow.2.1 13 = .ok (.iaload, 1) := by decide +kernel
theorem dX12_parityByRow_14 : decode mX12_parityByRow.2.1 14 = .ok (.if_icmp .ge 35, 3) := by decide +kernel
theorem dX12_parityByRow_17 : decode mX12_parityByRow.2.1 17 = .ok (.iload 4, 2) := by decide +kernel
theorem dX12_parityByRow_19 : decode mX12_parityByRow.2.1 19 = .ok (.aload_n 0, 1) := by decide +kernel
theorem dX12_parityByRow_20 : decode mX12_parityByRow.2.1 20 = .ok (.getfield 37, 3) := by decide +kernel
theorem dX12_parityByRow_23 : decode mX12_parityByRow.2.1 23 = .ok (.iload_n 1, 1) := by decide +kernel
theorem dX12_parityByRow_24 : decode mX12_parityByRow.2.1 24 = .ok (.iload 5, 2) := by decide +kernel
theorem dX12_parityByRow_26 : decode mX12_parityByRow.2.1 26 = .ok (.iadd, 1) := by decide +kernel
theorem dX12_parityByRow_27 : decode mX12_parityByRow.2.1 27 = .ok (.iaload, 1) := by decide +kernel
theorem dX12_parityByRow_28 : decode mX12_parityByRow.2.1 28 = .ok (.aload_n 0, 1) := by decide +kernel
theorem dX12_parityByRow_29 : decode mX12_parityByRow.2.1 29 = .ok (.getfield 37, 3) := by decide +kernel
theorem dX12_parityByRow_32 : decode mX12_parityByRow.2.1 32 = .ok (.iload_n 2, 1) := by decide +kernel
theorem dX12_parityByRow_33 : decode mX12_parityByRow.2.1 33 = .ok (.iload_n 3, 1) := by decide +kernel
theorem dX12_parityByRow_34 : decode mX12_parityByRow.2.1 34 = .ok (.iadd, 1) := by decide +kernel
theorem dX12_parityByRow_35 : decode mX12_parityByRow.2.1 35 = .ok (.iload 5, 2) := by decide +kernel
theorem dX12_parityByRow_37 : decode mX12_parityByRow.2.1 37 = .ok (.iadd, 1) := by decide +kernel
theorem dX12_parityByRow_38 : decode mX12_parityByRow.2.1 38 = .ok (.iaload, 1) := by decide +kernel
theorem dX12_parityByRow_39 : decode mX12_parityByRow.2.1 39 = .ok (.iand, 1) := by decide +kernel
theorem dX12_parityByRow_40 : decode mX12_parityByRow.2.1 40 = .ok (.ixor, 1) := by decide +kernel
theorem dX12_parityByRow_41 : decode mX12_parityByRow.2.1 41 = .ok (.istore 4, 2) := by decide +kernel
theorem dX12_parityByRow_43 : decode mX12_parityByRow.2.1 43 = .ok (.iinc 5 1, 3) := by decide +kernel
theorem dX12_parityByRow_46 : decode mX12_parityByRow.2.1 46 = .ok (.goto (-40), 3) := by decide +kernel
theorem dX12_parityByRow_49 : decode mX12_parityByRow.2.1 49 = .ok (.iload 4, 2) := by decide +kernel
theorem dX12_parityByRow_51 : decode mX12_parityByRow.2.1 51 = .ok (.ireturn, 1) := by decide +kernel
theorem dX12_parityOf_0 : decode mX12_parityOf.2.1 0 = .ok (.iconst 0, 1) := by decide +kernel
theorem dX12_parityOf_1 : decode mX12_parityOf.2.1 1 = .ok (.istore 5, 2) := by decide +kernel
theorem dX12_parityOf_3 : decode mX12_parityOf.2.1 3 = .ok (.iload_n 3, 1) := by decide +kernel
theorem dX12_parityOf_4 : decode mX12_parityOf.2.1 4 = .ok (.istore 6, 2) := by decide +kernel
theorem dX12_parityOf_6 : decode mX12_parityOf.2.1 6 = .ok (.iload 6, 2) := by decide +kernel
theorem dX12_parityOf_8 : decode mX12_parityOf.2.1 8 = .ok (.iload_n 3, 1) := by decide +kernel
theorem dX12_parityOf_9 : decode mX12_parityOf.2.1 9 = .ok (.iload 4, 2) := by decide +kernel
theorem dX12_parityOf_11 : decode mX12_parityOf.2.1 11 = .ok (.iadd, 1) := by decide +kernel
theorem dX12_parityOf_12 : decode mX12_parityOf.2.1 12 = .ok (.if_icmp .ge 38, 3) := by decide +kernel
theorem dX12_parityOf_15 : decode mX12_parityOf.2.1 15 = .ok (.iload 5, 2) := by decide +kernel
theorem dX12_parityOf_17 : decode mX12_parityOf.2.1 17 = .ok (.aload_n 0, 1) := by decide +kernel
theorem dX12_parityOf_18 : decode mX12_parityOf.2.1 18 = .ok (.getfield 37, 3) := by decide +kernel
theorem dX12_parityOf_21 : decode mX12_parityOf.2.1 21 = .ok (.iload_n 1, 1) := by decide +kernel
theorem dX12_parityOf_22 : decode mX12_parityOf.2.1 22 = .ok (.aload_n 0, 1) := by decide +kernel
theorem dX12_parityOf_23 : decode mX12_parityOf.2.1 23 = .ok (.getfield 37, 3) := by decide +kernel
theorem dX12_parityOf_26 : decode mX12_parityOf.2.1 26 = .ok (.sipush 1044, 3) := by decide +kernel
theorem dX12_parityOf_29 : decode mX12_parityOf.2.1 29 = .ok (.sipush 256, 3) := by decide +kernel
theorem dX12_parityOf_32 : decode mX12_parityOf.2.1 32 = .ok (.iload_n 2, 1) := by decide +kernel
theorem dX12_parityOf_33 : decode mX12_parityOf.2.1 33 = .ok (.imul, 1) := by decide +kernel
theorem dX12_parityOf_34 : decode mX12_parityOf.2.1 34 = .ok (.iadd, 1) := by decide +kernel
theorem dX12_parityOf_35 : decode mX12_parityOf.2.1 35 = .ok (.iload 6, 2) := by decide +kernel
theorem dX12_parityOf_37 : decode mX12_parityOf.2.1 37 = .ok (.iadd, 1) := by decide +kernel
theorem dX12_parityOf_38 : decode mX12_parityOf.2.1 38 = .ok (.iaload, 1) := by decide +kernel
theorem dX12_parityOf_39 : decode mX12_parityOf.2.1 39 = .ok (.iadd, 1) := by decide +kernel
theorem dX12_parityOf_40 : decode mX12_parityOf.2.1 40 = .ok (.iaload, 1) := by decide +kernel
theorem dX12_parityOf_41 : decode mX12_parityOf.2.1 41 = .ok (.ixor, 1) := by decide +kernel
theorem dX12_parityOf_42 : decode mX12_parityOf.2.1 42 = .ok (.istore 5, 2) := by decide +kernel
theorem dX12_parityOf_44 : decode mX12_parityOf.2.1 44 = .ok (.iinc 6 1, 3) := by decide +kernel
theorem dX12_parityOf_47 : decode mX12_parityOf.2.1 47 = .ok (.goto (-41), 3) := by decide +kernel
theorem dX12_parityOf_50 : decode mX12_parityOf.2.1 50 = .ok (.iload 5, 2) := by decide +kernel
theorem dX12_parityOf_52 : decode mX12_parityOf.2.1 52 = .ok (.ireturn, 1) := by decide +kernel
theorem dX12_parityOfEight_0 : decode mX12_parityOfEight.2.1 0 = .ok (.iconst 0, 1) := by decide +kernel
theorem dX12_parityOfEight_1 : decode mX12_parityOfEight.2.1 1 = .ok (.istore 4, 2) := by decide +kernel
theorem dX12_parityOfEight_3 : decode mX12_parityOfEight.2.1 3 = .ok (.iconst 0, 1) := by decide +kernel
theorem dX12_parityOfEight_4 : decode mX12_parityOfEight.2.1 4 = .ok (.istore 5, 2) := by decide +kernel
theorem dX12_parityOfEight_6 : decode mX12_parityOfEight.2.1 6 = .ok (.iload 5, 2) := by decide +kernel
theorem dX12_parityOfEight_8 : decode mX12_parityOfEight.2.1 8 = .ok (.bipush 8, 2) := by decide +kernel
theorem dX12_parityOfEight_10 : decode mX12_parityOfEight.2.1 10 = .ok (.if_icmp .ge 48, 3) := by decide +kernel
theorem dX12_parityOfEight_13 : decode mX12_parityOfEight.2.1 13 = .ok (.iload 4, 2) := by decide +kernel
theorem dX12_parityOfEight_15 : decode mX12_parityOfEight.2.1 15 = .ok (.iload_n 3, 1) := by decide +kernel
theorem dX12_parityOfEight_16 : decode mX12_parityOfEight.2.1 16 = .ok (.ifCond .eq 15, 3) := by decide +kernel
theorem dX12_parityOfEight_19 : decode mX12_parityOfEight.2.1 19 = .ok (.iload 5, 2) := by decide +kernel
theorem dX12_parityOfEight_21 : decode mX12_parityOfEight.2.1 21 = .ok (.iload_n 3, 1) := by decide +kernel
theorem dX12_parityOfEight_22 : decode mX12_parityOfEight.2.1 22 = .ok (.iconst 1, 1) := by decide +kernel
theorem dX12_parityOfEight_23 : decode mX12_parityOfEight.2.1 23 = .ok (.isub, 1) := by decide +kernel
theorem dX12_parityOfEight_24 : decode mX12_parityOfEight.2.1 24 = .ok (.ishr, 1) := by decide +kernel
theorem dX12_parityOfEight_25 : decode mX12_parityOfEight.2.1 25 = .ok (.iconst 1, 1) := by decide +kernel
theorem dX12_parityOfEight_26 : decode mX12_parityOfEight.2.1 26 = .ok (.iand, 1) := by decide +kernel
theorem dX12_parityOfEight_27 : decode mX12_parityOfEight.2.1 27 = .ok (.iconst 1, 1) := by decide +kernel
theorem dX12_parityOfEight_28 : decode mX12_parityOfEight.2.1 28 = .ok (.if_icmp .ne 20, 3) := by decide +kernel
theorem dX12_parityOfEight_31 : decode mX12_parityOfEight.2.1 31 = .ok (.aload_n 0, 1) := by decide +kernel
theorem dX12_parityOfEight_32 : decode mX12_parityOfEight.2.1 32 = .ok (.getfield 37, 3) := by decide +kernel
theorem dX12_parityOfEight_35 : decode mX12_parityOfEight.2.1 35 = .ok (.iload_n 1, 1) := by decide +kernel
theorem dX12_parityOfEight_36 : decode mX12_parityOfEight.2.1 36 = .ok (.bipush 8, 2) := by decide +kernel
theorem dX12_parityOfEight_38 : decode mX12_parityOfEight.2.1 38 = .ok (.iload_n 2, 1) := by decide +kernel
theorem dX12_parityOfEight_39 : decode mX12_parityOfEight.2.1 39 = .ok (.imul, 1) := by decide +kernel
theorem dX12_parityOfEight_40 : decode mX12_parityOfEight.2.1 40 = .ok (.iadd, 1) := by decide +kernel
theorem dX12_parityOfEight_41 : decode mX12_parityOfEight.2.1 41 = .ok (.iload 5, 2) := by decide +kernel
theorem dX12_parityOfEight_43 : decode mX12_parityOfEight.2.1 43 = .ok (.iadd, 1) := by decide +kernel
theorem dX12_parityOfEight_44 : decode mX12_parityOfEight.2.1 44 = .ok (.iaload, 1) := by decide +kernel
theorem dX12_parityOfEight_45 : decode mX12_parityOfEight.2.1 45 = .ok (.goto 4, 3) := by decide +kernel
theorem dX12_parityOfEight_48 : decode mX12_parityOfEight.2.1 48 = .ok (.iconst 0, 1) := by decide +kernel
theorem dX12_parityOfEight_49 : decode mX12_parityOfEight.2.1 49 = .ok (.ixor, 1) := by decide +kernel
theorem dX12_parityOfEight_50 : decode mX12_parityOfEight.2.1 50 = .ok (.istore 4, 2) := by decide +kernel
theorem dX12_parityOfEight_52 : decode mX12_parityOfEight.2.1 52 = .ok (.iinc 5 1, 3) := by decide +kernel
theorem dX12_parityOfEight_55 : decode mX12_parityOfEight.2.1 55 = .ok (.goto (-49), 3) := by decide +kernel
theorem dX12_parityOfEight_58 : decode mX12_parityOfEight.2.1 58 = .ok (.iload 4, 2) := by decide +kernel
theorem dX12_parityOfEight_60 : decode mX12_parityOfEight.2.1 60 = .ok (.ireturn, 1) := by decide +kernel
theorem dX12_pass_0 : decode mX12_pass.2.1 0 = .ok (.aload_n 0, 1) := by decide +kernel
theorem dX12_pass_1 : decode mX12_pass.2.1 1 = .ok (.invokevirtual 201, 3) := by decide +kernel
theorem dX12_pass_4 : decode mX12_pass.2.1 4 = .ok (.ifCond .eq 19, 3) := by decide +kernel
theorem dX12_pass_7 : decode mX12_pass.2.1 7 = .ok (.aload_n 0, 1) := by decide +kernel
theorem dX12_pass_8 : decode mX12_pass.2.1 8 = .ok (.getfield 37, 3) := by decide +kernel
theorem dX12_pass_11 : decode mX12_pass.2.1 11 = .ok (.iconst 2, 1) := by decide +kernel
theorem dX12_pass_12 : decode mX12_pass.2.1 12 = .ok (.iaload, 1) := by decide +kernel
theorem dX12_pass_13 : decode mX12_pass.2.1 13 = .ok (.aload_n 0, 1) := by decide +kernel
theorem dX12_pass_14 : decode mX12_pass.2.1 14 = .ok (.getfield 27, 3) := by decide +kernel
theorem dX12_pass_17 : decode mX12_pass.2.1 17 = .ok (.bipush 6, 2) := by decide +kernel
theorem dX12_pass_19 : decode mX12_pass.2.1 19 = .ok (.iaload, 1) := by decide +kernel
theorem dX12_pass_20 : decode mX12_pass.2.1 20 = .ok (.if_icmp .ne 5, 3) := by decide +kernel
theorem dX12_pass_23 : decode mX12_pass.2.1 23 = .ok (.iconst (-1), 1) := by decide +kernel
theorem dX12_pass_24 : decode mX12_pass.2.1 24 = .ok (.ireturn, 1) := by decide +kernel
theorem dX12_pass_25 : decode mX12_pass.2.1 25 = .ok (.aload_n 0, 1) := by decide +kernel
theorem dX12_pass_26 : decode mX12_pass.2.1 26 = .ok (.invokevirtual 149, 3) := by decide +kernel
theorem dX12_pass_29 : decode mX12_pass.2.1 29 = .ok (.aload_n 0, 1) := by decide +kernel
theorem dX12_pass_30 : decode mX12_pass.2.1 30 = .ok (.getfield 37, 3) := by decide +kernel
theorem dX12_pass_33 : decode mX12_pass.2.1 33 = .ok (.bipush 7, 2) := by decide +kernel
theorem dX12_pass_35 : decode mX12_pass.2.1 35 = .ok (.iaload, 1) := by decide +kernel
theorem dX12_pass_36 : decode mX12_pass.2.1 36 = .ok (.istore_n 1, 1) := by decide +kernel
theorem dX12_pass_37 : decode mX12_pass.2.1 37 = .ok (.aload_n 0, 1) := by decide +kernel
theorem dX12_pass_38 : decode mX12_pass.2.1 38 = .ok (.invokevirtual 204, 3) := by decide +kernel
theorem dX12_pass_41 : decode mX12_pass.2.1 41 = .ok (.aload_n 0, 1) := by decide +kernel
theorem dX12_pass_42 : decode mX12_pass.2.1 42 = .ok (.getfield 37, 3) := by decide +kernel
theorem dX12_pass_45 : decode mX12_pass.2.1 45 = .ok (.bipush 7, 2) := by decide +kernel
theorem dX12_pass_47 : decode mX12_pass.2.1 47 = .ok (.iaload, 1) := by decide +kernel
theorem dX12_pass_48 : decode mX12_pass.2.1 48 = .ok (.iload_n 1, 1) := by decide +kernel
theorem dX12_pass_49 : decode mX12_pass.2.1 49 = .ok (.isub, 1) := by decide +kernel
theorem dX12_pass_50 : decode mX12_pass.2.1 50 = .ok (.ireturn, 1) := by decide +kernel
theorem dX12_passes_0 : decode mX12_passes.2.1 0 = .ok (.aload_n 0, 1) := by decide +kernel
theorem dX12_passes_1 : decode mX12_passes.2.1 1 = .ok (.getfield 37, 3) := by decide +kernel
theorem dX12_passes_4 : decode mX12_passes.2.1 4 = .ok (.iconst 2, 1) := by decide +kernel
theorem dX12_passes_5 : decode mX12_passes.2.1 5 = .ok (.iaload, 1) := by decide +kernel
theorem dX12_passes_6 : decode mX12_passes.2.1 6 = .ok (.istore_n 1, 1) := by decide +kernel
theorem dX12_passes_7 : decode mX12_passes.2.1 7 = .ok (.aload_n 0, 1) := by decide +kernel
theorem dX12_passes_8 : decode mX12_passes.2.1 8 = .ok (.iload_n 1, 1) := by decide +kernel
theorem dX12_passes_9 : decode mX12_passes.2.1 9 = .ok (.invokevirtual 191, 3) := by decide +kernel
theorem dX12_passes_12 : decode mX12_passes.2.1 12 = .ok (.iconst 0, 1) := by decide +kernel
theorem dX12_passes_13 : decode mX12_passes.2.1 13 = .ok (.istore_n 2, 1) := by decide +kernel
theorem dX12_passes_14 : decode mX12_passes.2.1 14 = .ok (.iload_n 2, 1) := by decide +kernel
theorem dX12_passes_15 : decode mX12_passes.2.1 15 = .ok (.aload_n 0, 1) := by decide +kernel
theorem dX12_passes_16 : decode mX12_passes.2.1 16 = .ok (.getfield 37, 3) := by decide +kernel
theorem dX12_passes_19 : decode mX12_passes.2.1 19 = .ok (.iconst 1, 1) := by decide +kernel
theorem dX12_passes_20 : decode mX12_passes.2.1 20 = .ok (.iaload, 1) := by decide +kernel
theorem dX12_passes_21 : decode mX12_passes.2.1 21 = .ok (.if_icmp .ge 79, 3) := by decide +kernel
theorem dX12_passes_24 : decode mX12_passes.2.1 24 = .ok (.aload_n 0, 1) := by decide +kernel
theorem dX12_passes_25 : decode mX12_passes.2.1 25 = .ok (.iload_n 1, 1) := by decide +kernel
theorem dX12_passes_26 : decode mX12_passes.2.1 26 = .ok (.iload_n 2, 1) := by decide +kernel
theorem dX12_passes_27 : decode mX12_passes.2.1 27 = .ok (.invokevirtual 182, 3) := by decide +kernel
theorem dX12_passes_30 : decode mX12_passes.2.1 30 = .ok (.istore_n 3, 1) := by decide +kernel
theorem dX12_passes_31 : decode mX12_passes.2.1 31 = .ok (.aload_n 0, 1) := by decide +kernel
theorem dX12_passes_32 : decode mX12_passes.2.1 32 = .ok (.iload_n 1, 1) := by decide +kernel
theorem dX12_passes_33 : decode mX12_passes.2.1 33 = .ok (.iload_n 2, 1) := by decide +kernel
theorem dX12_passes_34 : decode mX12_passes.2.1 34 = .ok (.iload_n 3, 1) := by decide +kernel
theorem dX12_passes_35 : decode mX12_passes.2.1 35 = .ok (.invokevirtual 173, 3) := by decide +kernel
theorem dX12_passes_38 : decode mX12_passes.2.1 38 = .ok (.ifCond .ne 6, 3) := by decide +kernel
theorem dX12_passes_41 : decode mX12_passes.2.1 41 = .ok (.goto 48, 3) := by decide +kernel
theorem dX12_passes_44 : decode mX12_passes.2.1 44 = .ok (.aload_n 0, 1) := by decide +kernel
theorem dX12_passes_45 : decode mX12_passes.2.1 45 = .ok (.iload_n 1, 1) := by decide +kernel
theorem dX12_passes_46 : decode mX12_passes.2.1 46 = .ok (.iload_n 2, 1) := by decide +kernel
theorem dX12_passes_47 : decode mX12_passes.2.1 47 = .ok (.iload_n 3, 1) := by decide +kernel
theorem dX12_passes_48 : decode mX12_passes.2.1 48 = .ok (.invokevirtual 194, 3) := by decide +kernel
theorem dX12_passes_51 : decode mX12_passes.2.1 51 = .ok (.aload_n 0, 1) := by decide +kernel
theorem dX12_passes_52 : decode mX12_passes.2.1 52 = .ok (.iload_n 1, 1) := by decide +kernel
theorem dX12_passes_53 : decode mX12_passes.2.1 53 = .ok (.iload_n 2, 1) := by decide +kernel
theorem dX12_passes_54 : decode mX12_passes.2.1 54 = .ok (.iload_n 3, 1) := by decide +kernel
theorem dX12_passes_55 : decode mX12_passes.2.1 55 = .ok (.iadd, 1) := by decide +kernel
theorem dX12_passes_56 : decode mX12_passes.2.1 56 = .ok (.invokevirtual 198, 3) := by decide +kernel
theorem dX12_passes_59 : decode mX12_passes.2.1 59 = .ok (.ifCond .eq 30, 3) := by decide +kernel
theorem dX12_passes_62 : decode mX12_passes.2.1 62 = .ok (.aload_n 0, 1) := by decide +kernel
theorem dX12_passes_63 : decode mX12_passes.2.1 63 = .ok (.aload_n 0, 1) := by decide +kernel
theorem dX12_passes_64 : decode mX12_passes.2.1 64 = .ok (.getfield 185, 3) := by decide +kernel
theorem dX12_passes_67 : decode mX12_passes.2.1 67 = .ok (.aload_n 0, 1) := by decide +kernel
theorem dX12_passes_68 : decode mX12_passes.2.1 68 = .ok (.getfield 188, 3) := by decide +kernel
theorem dX12_passes_71 : decode mX12_passes.2.1 71 = .ok (.aload_n 0, 1) := by decide +kernel
theorem dX12_passes_72 : decode mX12_passes.2.1 72 = .ok (.aload_n 0, 1) := by decide +kernel
theorem dX12_passes_73 : decode mX12_passes.2.1 73 = .ok (.getfield 185, 3) := by decide +kernel
theorem dX12_passes_76 : decode mX12_passes.2.1 76 = .ok (.aload_n 0, 1) := by decide +kernel
theorem dX12_passes_77 : decode mX12_passes.2.1 77 = .ok (.getfield 188, 3) := by decide +kernel
theorem dX12_passes_80 : decode mX12_passes.2.1 80 = .ok (.invokevirtual 182, 3) := by decide +kernel
theorem dX12_passes_83 : decode mX12_passes.2.1 83 = .ok (.invokevirtual 194, 3) := by decide +kernel
theorem dX12_passes_86 : decode mX12_passes.2.1 86 = .ok (.goto (-35), 3) := by decide +kernel
theorem dX12_passes_89 : decode mX12_passes.2.1 89 = .ok (.iload_n 2, 1) := by decide +kernel
theorem dX12_passes_90 : decode mX12_passes.2.1 90 = .ok (.aload_n 0, 1) := by decide +kernel
theorem dX12_passes_91 : decode mX12_passes.2.1 91 = .ok (.iload_n 1, 1) := by decide +kernel
theorem dX12_passes_92 : decode mX12_passes.2.1 92 = .ok (.invokevirtual 179, 3) := by decide +kernel
theorem dX12_passes_95 : decode mX12_passes.2.1 95 = .ok (.iadd, 1) := by decide +kernel
theorem dX12_passes_96 : decode mX12_passes.2.1 96 = .ok (.istore_n 2, 1) := by decide +kernel
theorem dX12_passes_97 : decode mX12_passes.2.1 97 = .ok (.goto (-83), 3) := by decide +kernel
theorem dX12_passes_100 : decode mX12_passes.2.1 100 = .ok (.aload_n 0, 1) := by decide +kernel
theorem dX12_passes_101 : decode mX12_passes.2.1 101 = .ok (.getfield 37, 3) := by decide +kernel
theorem dX12_passes_104 : decode mX12_passes.2.1 104 = .ok (.iconst 2, 1) := by decide +kernel
theorem dX12_passes_105 : decode mX12_passes.2.1 105 = .ok (.dup2, 1) := by decide +kernel
theorem dX12_passes_106 : decode mX12_passes.2.1 106 = .ok (.iaload, 1) := by decide +kernel
theorem dX12_passes_107 : decode mX12_passes.2.1 107 = .ok (.iconst 1, 1) := by decide +kernel
theorem dX12_passes_108 : decode mX12_passes.2.1 108 = .ok (.iadd, 1) := by decide +kernel
theorem dX12_passes_109 : decode mX12_passes.2.1 109 = .ok (.iastore, 1) := by decide +kernel
theorem dX12_passes_110 : decode mX12_passes.2.1 110 = .ok (.aload_n 0, 1) := by decide +kernel
theorem dX12_passes_111 : decode mX12_passes.2.1 111 = .ok (.getfield 37, 3) := by decide +kernel
theorem dX12_passes_114 : decode mX12_passes.2.1 114 = .ok (.iconst 0, 1) := by decide +kernel
theorem dX12_passes_115 : decode mX12_passes.2.1 115 = .ok (.iconst 3, 1) := by decide +kernel
theorem dX12_passes_116 : decode mX12_passes.2.1 116 = .ok (.iastore, 1) := by decide +kernel
theorem dX12_passes_117 : decode mX12_passes.2.1 117 = .ok (.return_, 1) := by decide +kernel
theorem dX12_plan_0 : decode mX12_plan.2.1 0 = .ok (.aload_n 0, 1) := by decide +kernel
theorem dX12_plan_1 : decode mX12_plan.2.1 1 = .ok (.iconst 0, 1) := by decide +kernel
theorem dX12_plan_2 : decode mX12_plan.2.1 2 = .ok (.putfield 83, 3) := by decide +kernel
theorem dX12_plan_5 : decode mX12_plan.2.1 5 = .ok (.aload_n 0, 1) := by decide +kernel
theorem dX12_plan_6 : decode mX12_plan.2.1 6 = .ok (.invokevirtual 67, 3) := by decide +kernel
theorem dX12_plan_9 : decode mX12_plan.2.1 9 = .ok (.iconst 0, 1) := by decide +kernel
theorem dX12_plan_10 : decode mX12_plan.2.1 10 = .ok (.istore_n 1, 1) := by decide +kernel
theorem dX12_plan_11 : decode mX12_plan.2.1 11 = .ok (.iconst 1, 1) := by decide +kernel
theorem dX12_plan_12 : decode mX12_plan.2.1 12 = .ok (.istore_n 2, 1) := by decide +kernel
theorem dX12_plan_13 : decode mX12_plan.2.1 13 = .ok (.iconst 1, 1) := by decide +kernel
theorem dX12_plan_14 : decode mX12_plan.2.1 14 = .ok (.istore_n 3, 1) := by decide +kernel
theorem dX12_plan_15 : decode mX12_plan.2.1 15 = .ok (.iload_n 3, 1) := by decide +kernel
theorem dX12_plan_16 : decode mX12_plan.2.1 16 = .ok (.ifCond .eq 47, 3) := by decide +kernel
theorem dX12_plan_19 : decode mX12_plan.2.1 19 = .ok (.iload_n 2, 1) := by decide +kernel
theorem dX12_plan_20 : decode mX12_plan.2.1 20 = .ok (.ifCond .eq 43, 3) := by decide +kernel
theorem dX12_plan_23 : decode mX12_plan.2.1 23 = .ok (.aload_n 0, 1) := by decide +kernel
theorem dX12_plan_24 : decode mX12_plan.2.1 24 = .ok (.invokevirtual 114, 3) := by decide +kernel
theorem dX12_plan_27 : decode mX12_plan.2.1 27 = .ok (.istore_n 3, 1) := by decide +kernel
theorem dX12_plan_28 : decode mX12_plan.2.1 28 = .ok (.iinc 1 1, 3) := by decide +kernel
theorem dX12_plan_31 : decode mX12_plan.2.1 31 = .ok (.aload_n 0, 1) := by decide +kernel
theorem dX12_plan_32 : decode mX12_plan.2.1 32 = .ok (.invokevirtual 90, 3) := by decide +kernel
theorem dX12_plan_35 : decode mX12_plan.2.1 35 = .ok (.bipush 59, 2) := by decide +kernel
theorem dX12_plan_37 : decode mX12_plan.2.1 37 = .ok (.if_icmp .ne 7, 3) := by decide +kernel
theorem dX12_plan_40 : decode mX12_plan.2.1 40 = .ok (.iconst 1, 1) := by decide +kernel
theorem dX12_plan_41 : decode mX12_plan.2.1 41 = .ok (.goto 4, 3) := by decide +kernel
theorem dX12_plan_44 : decode mX12_plan.2.1 44 = .ok (.iconst 0, 1) := by decide +kernel
theorem dX12_plan_45 : decode mX12_plan.2.1 45 = .ok (.istore_n 2, 1) := by decide +kernel
theorem dX12_plan_46 : decode mX12_plan.2.1 46 = .ok (.iload_n 2, 1) := by decide +kernel
theorem dX12_plan_47 : decode mX12_plan.2.1 47 = .ok (.ifCond .eq (-32), 3) := by decide +kernel
theorem dX12_plan_50 : decode mX12_plan.2.1 50 = .ok (.aload_n 0, 1) := by decide +kernel
theorem dX12_plan_51 : decode mX12_plan.2.1 51 = .ok (.dup, 1) := by decide +kernel
theorem dX12_plan_52 : decode mX12_plan.2.1 52 = .ok (.getfield 83, 3) := by decide +kernel
theorem dX12_plan_55 : decode mX12_plan.2.1 55 = .ok (.iconst 1, 1) := by decide +kernel
theorem dX12_plan_56 : decode mX12_plan.2.1 56 = .ok (.iadd, 1) := by decide +kernel
theorem dX12_plan_57 : decode mX12_plan.2.1 57 = .ok (.putfield 83, 3) := by decide +kernel
theorem dX12_plan_60 : decode mX12_plan.2.1 60 = .ok (.goto (-45), 3) := by decide +kernel
theorem dX12_plan_63 : decode mX12_plan.2.1 63 = .ok (.iload_n 3, 1) := by decide +kernel
theorem dX12_plan_64 : decode mX12_plan.2.1 64 = .ok (.ifCond .eq 21, 3) := by decide +kernel
theorem dX12_plan_67 : decode mX12_plan.2.1 67 = .ok (.aload_n 0, 1) := by decide +kernel
theorem dX12_plan_68 : decode mX12_plan.2.1 68 = .ok (.invokevirtual 90, 3) := by decide +kernel
theorem dX12_plan_71 : decode mX12_plan.2.1 71 = .ok (.iconst (-1), 1) := by decide +kernel
theorem dX12_plan_72 : decode mX12_plan.2.1 72 = .ok (.if_icmp .eq 13, 3) := by decide +kernel
theorem dX12_plan_75 : decode mX12_plan.2.1 75 = .ok (.aload_n 0, 1) := by decide +kernel
theorem dX12_plan_76 : decode mX12_plan.2.1 76 = .ok (.iconst 1, 1) := by decide +kernel
theorem dX12_plan_77 : decode mX12_plan.2.1 77 = .ok (.aload_n 0, 1) := by decide +kernel
theorem dX12_plan_78 : decode mX12_plan.2.1 78 = .ok (.getfield 83, 3) := by decide +kernel
theorem dX12_plan_81 : decode mX12_plan.2.1 81 = .ok (.invokevirtual 101, 3) := by decide +kernel
theorem dX12_plan_84 : decode mX12_plan.2.1 84 = .ok (.istore_n 3, 1) := by decide +kernel
theorem dX12_plan_85 : decode mX12_plan.2.1 85 = .ok (.aload_n 0, 1) := by decide +kernel
theorem dX12_plan_86 : decode mX12_plan.2.1 86 = .ok (.iconst 0, 1) := by decide +kernel
theorem dX12_plan_87 : decode mX12_plan.2.1 87 = .ok (.putfield 73, 3) := by decide +kernel
theorem dX12_plan_90 : decode mX12_plan.2.1 90 = .ok (.iload_n 3, 1) := by decide +kernel
theorem dX12_plan_91 : decode mX12_plan.2.1 91 = .ok (.ifCond .ne 11, 3) := by decide +kernel
theorem dX12_plan_94 : decode mX12_plan.2.1 94 = .ok (.bipush (-2), 2) := by decide +kernel
theorem dX12_plan_96 : decode mX12_plan.2.1 96 = .ok (.aload_n 0, 1) := by decide +kernel
theorem dX12_plan_97 : decode mX12_plan.2.1 97 = .ok (.getfield 80, 3) := by decide +kernel
theorem dX12_plan_100 : decode mX12_plan.2.1 100 = .ok (.isub, 1) := by decide +kernel
theorem dX12_plan_101 : decode mX12_plan.2.1 101 = .ok (.ireturn, 1) := by decide +kernel
theorem dX12_plan_102 : decode mX12_plan.2.1 102 = .ok (.iconst 0, 1) := by decide +kernel
theorem dX12_plan_103 : decode mX12_plan.2.1 103 = .ok (.istore 4, 2) := by decide +kernel
theorem dX12_plan_105 : decode mX12_plan.2.1 105 = .ok (.iload 4, 2) := by decide +kernel
theorem dX12_plan_107 : decode mX12_plan.2.1 107 = .ok (.bipush 9, 2) := by decide +kernel
theorem dX12_plan_109 : decode mX12_plan.2.1 109 = .ok (.if_icmp .ge 23, 3) := by decide +kernel
theorem dX12_plan_112 : decode mX12_plan.2.1 112 = .ok (.aload_n 0, 1) := by decide +kernel
theorem dX12_plan_113 : decode mX12_plan.2.1 113 = .ok (.getfield 27, 3) := by decide +kernel
theorem dX12_plan_116 : decode mX12_plan.2.1 116 = .ok (.iload 4, 2) := by decide +kernel
theorem dX12_plan_118 : decode mX12_plan.2.1 118 = .ok (.aload_n 0, 1) := by decide +kernel
theorem dX12_plan_119 : decode mX12_plan.2.1 119 = .ok (.getfield 30, 3) := by decide +kernel
theorem dX12_plan_122 : decode mX12_plan.2.1 122 = .ok (.iload 4, 2) := by decide +kernel
theorem dX12_plan_124 : decode mX12_plan.2.1 124 = .ok (.iaload, 1) := by decide +kernel
theorem dX12_plan_125 : decode mX12_plan.2.1 125 = .ok (.iastore, 1) := by decide +kernel
theorem dX12_plan_126 : decode mX12_plan.2.1 126 = .ok (.iinc 4 1, 3) := by decide +kernel
theorem dX12_plan_129 : decode mX12_plan.2.1 129 = .ok (.goto (-24), 3) := by decide +kernel
theorem dX12_plan_132 : decode mX12_plan.2.1 132 = .ok (.aload_n 0, 1) := by decide +kernel
theorem dX12_plan_133 : decode mX12_plan.2.1 133 = .ok (.invokevirtual 70, 3) := by decide +kernel
theorem dX12_plan_136 : decode mX12_plan.2.1 136 = .ok (.iconst 0, 1) := by decide +kernel
theorem dX12_plan_137 : decode mX12_plan.2.1 137 = .ok (.istore 4, 2) := by decide +kernel
theorem dX12_plan_139 : decode mX12_plan.2.1 139 = .ok (.iload 4, 2) := by decide +kernel
theorem dX12_plan_141 : decode mX12_plan.2.1 141 = .ok (.iconst 2, 1) := by decide +kernel
theorem dX12_plan_142 : decode mX12_plan.2.1 142 = .ok (.if_icmp .ge 17, 3) := by decide +kernel
theorem dX12_plan_145 : decode mX12_plan.2.1 145 = .ok (.aload_n 0, 1) := by decide +kernel
theorem dX12_plan_146 : decode mX12_plan.2.1 146 = .ok (.getfield 51, 3) := by decide +kernel
theorem dX12_plan_149 : decode mX12_plan.2.1 149 = .ok (.iload 4, 2) := by decide +kernel
theorem dX12_plan_151 : decode mX12_plan.2.1 151 = .ok (.iconst 0, 1) := by decide +kernel
theorem dX12_plan_152 : decode mX12_plan.2.1 152 = .ok (.bastore, 1) := by decide +kernel
theorem dX12_plan_153 : decode mX12_plan.2.1 153 = .ok (.iinc 4 1, 3) := by decide +kernel
theorem dX12_plan_156 : decode mX12_plan.2.1 156 = .ok (.goto (-17), 3) := by decide +kernel
theorem dX12_plan_159 : decode mX12_plan.2.1 159 = .ok (.aload_n 0, 1) := by decide +kernel
theorem dX12_plan_160 : decode mX12_plan.2.1 160 = .ok (.iconst 0, 1) := by decide +kernel
theorem dX12_plan_161 : decode mX12_plan.2.1 161 = .ok (.putfield 118, 3) := by decide +kernel
theorem dX12_plan_164 : decode mX12_plan.2.1 164 = .ok (.iload_n 1, 1) := by decide +kernel
theorem dX12_plan_165 : decode mX12_plan.2.1 165 = .ok (.ireturn, 1) := by decide +kernel
theorem dX12_rank_0 : decode mX12_rank.2.1 0 = .ok (.aload_n 0, 1) := by decide +kernel
theorem dX12_rank_1 : decode mX12_rank.2.1 1 = .ok (.invokevirtual 284, 3) := by decide +kernel
theorem dX12_rank_4 : decode mX12_rank.2.1 4 = .ok (.aload_n 0, 1) := by decide +kernel
theorem dX12_rank_5 : decode mX12_rank.2.1 5 = .ok (.invokevirtual 287, 3) := by decide +kernel
theorem dX12_rank_8 : decode mX12_rank.2.1 8 = .ok (.aload_n 0, 1) := by decide +kernel
theorem dX12_rank_9 : decode mX12_rank.2.1 9 = .ok (.getfield 275, 3) := by decide +kernel
theorem dX12_rank_12 : decode mX12_rank.2.1 12 = .ok (.ireturn, 1) := by decide +kernel
theorem dX12_readsLine_0 : decode mX12_readsLine.2.1 0 = .ok (.aload_n 0, 1) := by decide +kernel
theorem dX12_readsLine_1 : decode mX12_readsLine.2.1 1 = .ok (.invokevirtual 98, 3) := by decide +kernel
theorem dX12_readsLine_4 : decode mX12_readsLine.2.1 4 = .ok (.istore_n 1, 1) := by decide +kernel
theorem dX12_readsLine_5 : decode mX12_readsLine.2.1 5 = .ok (.iload_n 1, 1) := by decide +kernel
theorem dX12_readsLine_6 : decode mX12_readsLine.2.1 6 = .ok (.ifCond .ge 13, 3) := by decide +kernel
theorem dX12_readsLine_9 : decode mX12_readsLine.2.1 9 = .ok (.aload_n 0, 1) := by decide +kernel
theorem dX12_readsLine_10 : decode mX12_readsLine.2.1 10 = .ok (.iconst 1, 1) := by decide +kernel
theorem dX12_readsLine_11 : decode mX12_readsLine.2.1 11 = .ok (.aload_n 0, 1) := by decide +kernel
theorem dX12_readsLine_12 : decode mX12_readsLine.2.1 12 = .ok (.getfield 83, 3) := by decide +kernel
theorem dX12_readsLine_15 : decode mX12_readsLine.2.1 15 = .ok (.invokevirtual 101, 3) := by decide +kernel
theorem dX12_readsLine_18 : decode mX12_readsLine.2.1 18 = .ok (.ireturn, 1) := by decide +kernel
theorem dX12_readsLine_19 : decode mX12_readsLine.2.1 19 = .ok (.aload_n 0, 1) := by decide +kernel
theorem dX12_readsLine_20 : decode mX12_readsLine.2.1 20 = .ok (.getfield 33, 3) := by decide +kernel
theorem dX12_readsLine_23 : decode mX12_readsLine.2.1 23 = .ok (.iload_n 1, 1) := by decide +kernel
theorem dX12_readsLine_24 : decode mX12_readsLine.2.1 24 = .ok (.baload, 1) := by decide +kernel
theorem dX12_readsLine_25 : decode mX12_readsLine.2.1 25 = .ok (.ifCond .eq 13, 3) := by decide +kernel
theorem dX12_readsLine_28 : decode mX12_readsLine.2.1 28 = .ok (.aload_n 0, 1) := by decide +kernel
theorem dX12_readsLine_29 : decode mX12_readsLine.2.1 29 = .ok (.iconst 3, 1) := by decide +kernel
theorem dX12_readsLine_30 : decode mX12_readsLine.2.1 30 = .ok (.aload_n 0, 1) := by decide +kernel
theorem dX12_readsLine_31 : decode mX12_readsLine.2.1 31 = .ok (.getfield 83, 3) := by decide +kernel
theorem dX12_readsLine_34 : decode mX12_readsLine.2.1 34 = .ok (.invokevirtual 101, 3) := by decide +kernel
theorem dX12_readsLine_37 : decode mX12_readsLine.2.1 37 = .ok (.ireturn, 1) := by decide +kernel
theorem dX12_readsLine_38 : decode mX12_readsLine.2.1 38 = .ok (.aload_n 0, 1) := by decide +kernel
theorem dX12_readsLine_39 : decode mX12_readsLine.2.1 39 = .ok (.getfield 33, 3) := by decide +kernel
theorem dX12_readsLine_42 : decode mX12_readsLine.2.1 42 = .ok (.iload_n 1, 1) := by decide +kernel
theorem dX12_readsLine_43 : decode mX12_readsLine.2.1 43 = .ok (.iconst 1, 1) := by decide +kernel
theorem dX12_readsLine_44 : decode mX12_readsLine.2.1 44 = .ok (.bastore, 1) := by decide +kernel
theorem dX12_readsLine_45 : decode mX12_readsLine.2.1 45 = .ok (.aload_n 0, 1) := by decide +kernel
theorem dX12_readsLine_46 : decode mX12_readsLine.2.1 46 = .ok (.aload_n 0, 1) := by decide +kernel
theorem dX12_readsLine_47 : decode mX12_readsLine.2.1 47 = .ok (.getfield 83, 3) := by decide +kernel
theorem dX12_readsLine_50 : decode mX12_readsLine.2.1 50 = .ok (.invokevirtual 86, 3) := by decide +kernel
theorem dX12_readsLine_53 : decode mX12_readsLine.2.1 53 = .ok (.invokestatic 94, 3) := by decide +kernel
theorem dX12_readsLine_56 : decode mX12_readsLine.2.1 56 = .ok (.ifCond .eq 16, 3) := by decide +kernel
theorem dX12_readsLine_59 : decode mX12_readsLine.2.1 59 = .ok (.aload_n 0, 1) := by decide +kernel
theorem dX12_readsLine_60 : decode mX12_readsLine.2.1 60 = .ok (.dup, 1) := by decide +kernel
theorem dX12_readsLine_61 : decode mX12_readsLine.2.1 61 = .ok (.getfield 83, 3) := by decide +kernel
theorem dX12_readsLine_64 : decode mX12_readsLine.2.1 64 = .ok (.iconst 1, 1) := by decide +kernel
theorem dX12_readsLine_65 : decode mX12_readsLine.2.1 65 = .ok (.iadd, 1) := by decide +kernel
theorem dX12_readsLine_66 : decode mX12_readsLine.2.1 66 = .ok (.putfield 83, 3) := by decide +kernel
theorem dX12_readsLine_69 : decode mX12_readsLine.2.1 69 = .ok (.goto (-24), 3) := by decide +kernel
theorem dX12_readsLine_72 : decode mX12_readsLine.2.1 72 = .ok (.aload_n 0, 1) := by decide +kernel
theorem dX12_readsLine_73 : decode mX12_readsLine.2.1 73 = .ok (.invokevirtual 90, 3) := by decide +kernel
theorem dX12_readsLine_76 : decode mX12_readsLine.2.1 76 = .ok (.invokestatic 105, 3) := by decide +kernel
theorem dX12_readsLine_79 : decode mX12_readsLine.2.1 79 = .ok (.ifCond .ne 13, 3) := by decide +kernel
theorem dX12_readsLine_82 : decode mX12_readsLine.2.1 82 = .ok (.aload_n 0, 1) := by decide +kernel
theorem dX12_readsLine_83 : decode mX12_readsLine.2.1 83 = .ok (.iconst 1, 1) := by decide +kernel
theorem dX12_readsLine_84 : decode mX12_readsLine.2.1 84 = .ok (.aload_n 0, 1) := by decide +kernel
theorem dX12_readsLine_85 : decode mX12_readsLine.2.1 85 = .ok (.getfield 83, 3) := by decide +kernel
theorem dX12_readsLine_88 : decode mX12_readsLine.2.1 88 = .ok (.invokevirtual 101, 3) := by decide +kernel
theorem dX12_readsLine_91 : decode mX12_readsLine.2.1 91 = .ok (.ireturn, 1) := by decide +kernel
theorem dX12_readsLine_92 : decode mX12_readsLine.2.1 92 = .ok (.aload_n 0, 1) := by decide +kernel
theorem dX12_readsLine_93 : decode mX12_readsLine.2.1 93 = .ok (.getfield 83, 3) := by decide +kernel
theorem dX12_readsLine_96 : decode mX12_readsLine.2.1 96 = .ok (.istore_n 2, 1) := by decide +kernel
theorem dX12_readsLine_97 : decode mX12_readsLine.2.1 97 = .ok (.lconst 0, 1) := by decide +kernel
theorem dX12_readsLine_98 : decode mX12_readsLine.2.1 98 = .ok (.lstore_n 3, 1) := by decide +kernel
theorem dX12_readsLine_99 : decode mX12_readsLine.2.1 99 = .ok (.aload_n 0, 1) := by decide +kernel
theorem dX12_readsLine_100 : decode mX12_readsLine.2.1 100 = .ok (.aload_n 0, 1) := by decide +kernel
theorem dX12_readsLine_101 : decode mX12_readsLine.2.1 101 = .ok (.getfield 83, 3) := by decide +kernel
theorem dX12_readsLine_104 : decode mX12_readsLine.2.1 104 = .ok (.invokevirtual 86, 3) := by decide +kernel
theorem dX12_readsLine_107 : decode mX12_readsLine.2.1 107 = .ok (.invokestatic 105, 3) := by decide +kernel
theorem dX12_readsLine_110 : decode mX12_readsLine.2.1 110 = .ok (.ifCond .eq 48, 3) := by decide +kernel
theorem dX12_readsLine_113 : decode mX12_readsLine.2.1 113 = .ok (.lload_n 3, 1) := by decide +kernel
theorem dX12_readsLine_114 : decode mX12_readsLine.2.1 114 = .ok (.ldc2_w 108, 3) := by decide +kernel
theorem dX12_readsLine_117 : decode mX12_readsLine.2.1 117 = .ok (.lcmp, 1) := by decide +kernel
theorem dX12_readsLine_118 : decode mX12_readsLine.2.1 118 = .ok (.ifCond .le 7, 3) := by decide +kernel
theorem dX12_readsLine_121 : decode mX12_readsLine.2.1 121 = .ok (.lload_n 3, 1) := by decide +kernel
theorem dX12_readsLine_122 : decode mX12_readsLine.2.1 122 = .ok (.goto 22, 3) := by decide +kernel
theorem dX12_readsLine_125 : decode mX12_readsLine.2.1 125 = .ok (.ldc2_w 110, 3) := by decide +kernel
theorem dX12_readsLine_128 : decode mX12_readsLine.2.1 128 = .ok (.lload_n 3, 1) := by decide +kernel
theorem dX12_readsLine_129 : decode mX12_readsLine.2.1 129 = .ok (.lmul, 1) := by decide +kernel
theorem dX12_readsLine_130 : decode mX12_readsLine.2.1 130 = .ok (.aload_n 0, 1) := by decide +kernel
theorem dX12_readsLine_131 : decode mX12_readsLine.2.1 131 = .ok (.aload_n 0, 1) := by decide +kernel
theorem dX12_readsLine_132 : decode mX12_readsLine.2.1 132 = .ok (.getfield 83, 3) := by decide +kernel
theorem dX12_readsLine_135 : decode mX12_readsLine.2.1 135 = .ok (.invokevirtual 86, 3) := by decide +kernel
theorem dX12_readsLine_138 : decode mX12_readsLine.2.1 138 = .ok (.i2l, 1) := by decide +kernel
theorem dX12_readsLine_139 : decode mX12_readsLine.2.1 139 = .ok (.ladd, 1) := by decide +kernel
theorem dX12_readsLine_140 : decode mX12_readsLine.2.1 140 = .ok (.ldc2_w 112, 3) := by decide +kernel
theorem dX12_readsLine_143 : decode mX12_readsLine.2.1 143 = .ok (.lsub, 1) := by decide +kernel
theorem dX12_readsLine_144 : decode mX12_readsLine.2.1 144 = .ok (.lstore_n 3, 1) := by decide +kernel
theorem dX12_readsLine_145 : decode mX12_readsLine.2.1 145 = .ok (.aload_n 0, 1) := by decide +kernel
theorem dX12_readsLine_146 : decode mX12_readsLine.2.1 146 = .ok (.dup, 1) := by decide +kernel
theorem dX12_readsLine_147 : decode mX12_readsLine.2.1 147 = .ok (.getfield 83, 3) := by decide +kernel
theorem dX12_readsLine_150 : decode mX12_readsLine.2.1 150 = .ok (.iconst 1, 1) := by decide +kernel
theorem dX12_readsLine_151 : decode mX12_readsLine.2.1 151 = .ok (.iadd, 1) := by decide +kernel
theorem dX12_readsLine_152 : decode mX12_readsLine.2.1 152 = .ok (.putfield 83, 3) := by decide +kernel
theorem dX12_readsLine_155 : decode mX12_readsLine.2.1 155 = .ok (.goto (-56), 3) := by decide +kernel
theorem dX12_readsLine_158 : decode mX12_readsLine.2.1 158 = .ok (.lload_n 3, 1) := by decide +kernel
theorem dX12_readsLine_159 : decode mX12_readsLine.2.1 159 = .ok (.aload_n 0, 1) := by decide +kernel
theorem dX12_readsLine_160 : decode mX12_readsLine.2.1 160 = .ok (.getfield 16, 3) := by decide +kernel
theorem dX12_readsLine_163 : decode mX12_readsLine.2.1 163 = .ok (.iload_n 1, 1) := by decide +kernel
theorem dX12_readsLine_164 : decode mX12_readsLine.2.1 164 = .ok (.iaload, 1) := by decide +kernel
theorem dX12_readsLine_165 : decode mX12_readsLine.2.1 165 = .ok (.i2l, 1) := by decide +kernel
theorem dX12_readsLine_166 : decode mX12_readsLine.2.1 166 = .ok (.aload_n 0, 1) := by decide +kernel
theorem dX12_readsLine_167 : decode mX12_readsLine.2.1 167 = .ok (.getfield 21, 3) := by decide +kernel
theorem dX12_readsLine_170 : decode mX12_readsLine.2.1 170 = .ok (.iload_n 1, 1) := by decide +kernel
theorem dX12_readsLine_171 : decode mX12_readsLine.2.1 171 = .ok (.iaload, 1) := by decide +kernel
theorem dX12_readsLine_172 : decode mX12_readsLine.2.1 172 = .ok (.i2l, 1) := by decide +kernel
theorem dX12_readsLine_173 : decode mX12_readsLine.2.1 173 = .ok (.invokestatic 76, 3) := by decide +kernel
theorem dX12_readsLine_176 : decode mX12_readsLine.2.1 176 = .ok (.ifCond .ne 10, 3) := by decide +kernel
theorem dX12_readsLine_179 : decode mX12_readsLine.2.1 179 = .ok (.aload_n 0, 1) := by decide +kernel
theorem dX12_readsLine_180 : decode mX12_readsLine.2.1 180 = .ok (.iconst 2, 1) := by decide +kernel
theorem dX12_readsLine_181 : decode mX12_readsLine.2.1 181 = .ok (.iload_n 2, 1) := by decide +kernel
theorem dX12_readsLine_182 : decode mX12_readsLine.2.1 182 = .ok (.invokevirtual 101, 3) := by decide +kernel
theorem dX12_readsLine_185 : decode mX12_readsLine.2.1 185 = .ok (.ireturn, 1) := by decide +kernel
theorem dX12_readsLine_186 : decode mX12_readsLine.2.1 186 = .ok (.aload_n 0, 1) := by decide +kernel
theorem dX12_readsLine_187 : decode mX12_readsLine.2.1 187 = .ok (.getfield 30, 3) := by decide +kernel
theorem dX12_readsLine_190 : decode mX12_readsLine.2.1 190 = .ok (.iload_n 1, 1) := by decide +kernel
theorem dX12_readsLine_191 : decode mX12_readsLine.2.1 191 = .ok (.lload_n 3, 1) := by decide +kernel
theorem dX12_readsLine_192 : decode mX12_readsLine.2.1 192 = .ok (.l2i, 1) := by decide +kernel
theorem dX12_readsLine_193 : decode mX12_readsLine.2.1 193 = .ok (.iastore, 1) := by decide +kernel
theorem dX12_readsLine_194 : decode mX12_readsLine.2.1 194 = .ok (.iconst 1, 1) := by decide +kernel
theorem dX12_readsLine_195 : decode mX12_readsLine.2.1 195 = .ok (.ireturn, 1) := by decide +kernel
theorem dX12_reduces_0 : decode mX12_reduces.2.1 0 = .ok (.iconst 0, 1) := by decide +kernel
theorem dX12_reduces_1 : decode mX12_reduces.2.1 1 = .ok (.istore_n 1, 1) := by decide +kernel
theorem dX12_reduces_2 : decode mX12_reduces.2.1 2 = .ok (.iload_n 1, 1) := by decide +kernel
theorem dX12_reduces_3 : decode mX12_reduces.2.1 3 = .ok (.aload_n 0, 1) := by decide +kernel
theorem dX12_reduces_4 : decode mX12_reduces.2.1 4 = .ok (.getfield 37, 3) := by decide +kernel
theorem dX12_reduces_7 : decode mX12_reduces.2.1 7 = .ok (.iconst 1, 1) := by decide +kernel
theorem dX12_reduces_8 : decode mX12_reduces.2.1 8 = .ok (.iaload, 1) := by decide +kernel
theorem dX12_reduces_9 : decode mX12_reduces.2.1 9 = .ok (.if_icmp .ge 65, 3) := by decide +kernel
theorem dX12_reduces_12 : decode mX12_reduces.2.1 12 = .ok (.aload_n 0, 1) := by decide +kernel
theorem dX12_reduces_13 : decode mX12_reduces.2.1 13 = .ok (.iload_n 1, 1) := by decide +kernel
theorem dX12_reduces_14 : decode mX12_reduces.2.1 14 = .ok (.invokevirtual 260, 3) := by decide +kernel
theorem dX12_reduces_17 : decode mX12_reduces.2.1 17 = .ok (.ifCond .ne 6, 3) := by decide +kernel
theorem dX12_reduces_20 : decode mX12_reduces.2.1 20 = .ok (.goto 48, 3) := by decide +kernel
theorem dX12_reduces_23 : decode mX12_reduces.2.1 23 = .ok (.aload_n 0, 1) := by decide +kernel
theorem dX12_reduces_24 : decode mX12_reduces.2.1 24 = .ok (.getfield 64, 3) := by decide +kernel
theorem dX12_reduces_27 : decode mX12_reduces.2.1 27 = .ok (.iload_n 1, 1) := by decide +kernel
theorem dX12_reduces_28 : decode mX12_reduces.2.1 28 = .ok (.baload, 1) := by decide +kernel
theorem dX12_reduces_29 : decode mX12_reduces.2.1 29 = .ok (.ifCond .ne 5, 3) := by decide +kernel
theorem dX12_reduces_32 : decode mX12_reduces.2.1 32 = .ok (.iconst 1, 1) := by decide +kernel
theorem dX12_reduces_33 : decode mX12_reduces.2.1 33 = .ok (.ireturn, 1) := by decide +kernel
theorem dX12_reduces_34 : decode mX12_reduces.2.1 34 = .ok (.iconst 0, 1) := by decide +kernel
theorem dX12_reduces_35 : decode mX12_reduces.2.1 35 = .ok (.istore_n 2, 1) := by decide +kernel
theorem dX12_reduces_36 : decode mX12_reduces.2.1 36 = .ok (.iload_n 2, 1) := by decide +kernel
theorem dX12_reduces_37 : decode mX12_reduces.2.1 37 = .ok (.bipush 8, 2) := by decide +kernel
theorem dX12_reduces_39 : decode mX12_reduces.2.1 39 = .ok (.if_icmp .ge 29, 3) := by decide +kernel
theorem dX12_reduces_42 : decode mX12_reduces.2.1 42 = .ok (.aload_n 0, 1) := by decide +kernel
theorem dX12_reduces_43 : decode mX12_reduces.2.1 43 = .ok (.getfield 58, 3) := by decide +kernel
theorem dX12_reduces_46 : decode mX12_reduces.2.1 46 = .ok (.iload_n 2, 1) := by decide +kernel
theorem dX12_reduces_47 : decode mX12_reduces.2.1 47 = .ok (.dup2, 1) := by decide +kernel
theorem dX12_reduces_48 : decode mX12_reduces.2.1 48 = .ok (.iaload, 1) := by decide +kernel
theorem dX12_reduces_49 : decode mX12_reduces.2.1 49 = .ok (.aload_n 0, 1) := by decide +kernel
theorem dX12_reduces_50 : decode mX12_reduces.2.1 50 = .ok (.getfield 61, 3) := by decide +kernel
theorem dX12_reduces_53 : decode mX12_reduces.2.1 53 = .ok (.bipush 8, 2) := by decide +kernel
theorem dX12_reduces_55 : decode mX12_reduces.2.1 55 = .ok (.iload_n 1, 1) := by decide +kernel
theorem dX12_reduces_56 : decode mX12_reduces.2.1 56 = .ok (.imul, 1) := by decide +kernel
theorem dX12_reduces_57 : decode mX12_reduces.2.1 57 = .ok (.iload_n 2, 1) := by decide +kernel
theorem dX12_reduces_58 : decode mX12_reduces.2.1 58 = .ok (.iadd, 1) := by decide +kernel
theorem dX12_reduces_59 : decode mX12_reduces.2.1 59 = .ok (.iaload, 1) := by decide +kernel
theorem dX12_reduces_60 : decode mX12_reduces.2.1 60 = .ok (.ixor, 1) := by decide +kernel
theorem dX12_reduces_61 : decode mX12_reduces.2.1 61 = .ok (.iastore, 1) := by decide +kernel
theorem dX12_reduces_62 : decode mX12_reduces.2.1 62 = .ok (.iinc 2 1, 3) := by decide +kernel
theorem dX12_reduces_65 : decode mX12_reduces.2.1 65 = .ok (.goto (-29), 3) := by decide +kernel
theorem dX12_reduces_68 : decode mX12_reduces.2.1 68 = .ok (.iinc 1 1, 3) := by decide +kernel
theorem dX12_reduces_71 : decode mX12_reduces.2.1 71 = .ok (.goto (-69), 3) := by decide +kernel
theorem dX12_reduces_74 : decode mX12_reduces.2.1 74 = .ok (.iconst 0, 1) := by decide +kernel
theorem dX12_reduces_75 : decode mX12_reduces.2.1 75 = .ok (.ireturn, 1) := by decide +kernel
theorem dX12_root_0 : decode mX12_root.2.1 0 = .ok (.iconst 0, 1) := by decide +kernel
theorem dX12_root_1 : decode mX12_root.2.1 1 = .ok (.istore_n 1, 1) := by decide +kernel
theorem dX12_root_2 : decode mX12_root.2.1 2 = .ok (.iload_n 1, 1) := by decide +kernel
theorem dX12_root_3 : decode mX12_root.2.1 3 = .ok (.iconst 1, 1) := by decide +kernel
theorem dX12_root_4 : decode mX12_root.2.1 4 = .ok (.iadd, 1) := by decide +kernel
theorem dX12_root_5 : decode mX12_root.2.1 5 = .ok (.iload_n 1, 1) := by decide +kernel
theorem dX12_root_6 : decode mX12_root.2.1 6 = .ok (.iconst 1, 1) := by decide +kernel
theorem dX12_root_7 : decode mX12_root.2.1 7 = .ok (.iadd, 1) := by decide +kernel
theorem dX12_root_8 : decode mX12_root.2.1 8 = .ok (.imul, 1) := by decide +kernel
theorem dX12_root_9 : decode mX12_root.2.1 9 = .ok (.iload_n 0, 1) := by decide +kernel
theorem dX12_root_10 : decode mX12_root.2.1 10 = .ok (.if_icmp .gt 9, 3) := by decide +kernel
theorem dX12_root_13 : decode mX12_root.2.1 13 = .ok (.iinc 1 1, 3) := by decide +kernel
theorem dX12_root_16 : decode mX12_root.2.1 16 = .ok (.goto (-14), 3) := by decide +kernel
theorem dX12_root_19 : decode mX12_root.2.1 19 = .ok (.iload_n 1, 1) := by decide +kernel
theorem dX12_root_20 : decode mX12_root.2.1 20 = .ok (.ireturn, 1) := by decide +kernel
theorem dX12_rounds_0 : decode mX12_rounds.2.1 0 = .ok (.iload_n 1, 1) := by decide +kernel
theorem dX12_rounds_1 : decode mX12_rounds.2.1 1 = .ok (.i2l, 1) := by decide +kernel
theorem dX12_rounds_2 : decode mX12_rounds.2.1 2 = .ok (.lconst 0, 1) := by decide +kernel
theorem dX12_rounds_3 : decode mX12_rounds.2.1 3 = .ok (.lconst 1, 1) := by decide +kernel
theorem dX12_rounds_4 : decode mX12_rounds.2.1 4 = .ok (.invokestatic 76, 3) := by decide +kernel
theorem dX12_rounds_7 : decode mX12_rounds.2.1 7 = .ok (.ifCond .eq 10, 3) := by decide +kernel
theorem dX12_rounds_10 : decode mX12_rounds.2.1 10 = .ok (.aload_n 0, 1) := by decide +kernel
theorem dX12_rounds_11 : decode mX12_rounds.2.1 11 = .ok (.invokevirtual 201, 3) := by decide +kernel
theorem dX12_rounds_14 : decode mX12_rounds.2.1 14 = .ok (.ifCond .ne 5, 3) := by decide +kernel
theorem dX12_rounds_17 : decode mX12_rounds.2.1 17 = .ok (.iconst (-1), 1) := by decide +kernel
theorem dX12_rounds_18 : decode mX12_rounds.2.1 18 = .ok (.ireturn, 1) := by decide +kernel
theorem dX12_rounds_19 : decode mX12_rounds.2.1 19 = .ok (.aload_n 0, 1) := by decide +kernel
theorem dX12_rounds_20 : decode mX12_rounds.2.1 20 = .ok (.invokevirtual 305, 3) := by decide +kernel
theorem dX12_rounds_23 : decode mX12_rounds.2.1 23 = .ok (.iconst 0, 1) := by decide +kernel
theorem dX12_rounds_24 : decode mX12_rounds.2.1 24 = .ok (.istore_n 2, 1) := by decide +kernel
theorem dX12_rounds_25 : decode mX12_rounds.2.1 25 = .ok (.aload_n 0, 1) := by decide +kernel
theorem dX12_rounds_26 : decode mX12_rounds.2.1 26 = .ok (.getfield 37, 3) := by decide +kernel
theorem dX12_rounds_29 : decode mX12_rounds.2.1 29 = .ok (.iconst 3, 1) := by decide +kernel
theorem dX12_rounds_30 : decode mX12_rounds.2.1 30 = .ok (.iaload, 1) := by decide +kernel
theorem dX12_rounds_31 : decode mX12_rounds.2.1 31 = .ok (.istore_n 3, 1) := by decide +kernel
theorem dX12_rounds_32 : decode mX12_rounds.2.1 32 = .ok (.aload_n 0, 1) := by decide +kernel
theorem dX12_rounds_33 : decode mX12_rounds.2.1 33 = .ok (.invokevirtual 237, 3) := by decide +kernel
theorem dX12_rounds_36 : decode mX12_rounds.2.1 36 = .ok (.ifCond .le 29, 3) := by decide +kernel
theorem dX12_rounds_39 : decode mX12_rounds.2.1 39 = .ok (.aload_n 0, 1) := by decide +kernel
theorem dX12_rounds_40 : decode mX12_rounds.2.1 40 = .ok (.getfield 37, 3) := by decide +kernel
theorem dX12_rounds_43 : decode mX12_rounds.2.1 43 = .ok (.iconst 2, 1) := by decide +kernel
theorem dX12_rounds_44 : decode mX12_rounds.2.1 44 = .ok (.iaload, 1) := by decide +kernel
theorem dX12_rounds_45 : decode mX12_rounds.2.1 45 = .ok (.aload_n 0, 1) := by decide +kernel
theorem dX12_rounds_46 : decode mX12_rounds.2.1 46 = .ok (.getfield 27, 3) := by decide +kernel
theorem dX12_rounds_49 : decode mX12_rounds.2.1 49 = .ok (.bipush 6, 2) := by decide +kernel
theorem dX12_rounds_51 : decode mX12_rounds.2.1 51 = .ok (.iaload, 1) := by decide +kernel
theorem dX12_rounds_52 : decode mX12_rounds.2.1 52 = .ok (.if_icmp .ge 13, 3) := by decide +kernel
theorem dX12_rounds_55 : decode mX12_rounds.2.1 55 = .ok (.aload_n 0, 1) := by decide +kernel
theorem dX12_rounds_56 : decode mX12_rounds.2.1 56 = .ok (.invokevirtual 204, 3) := by decide +kernel
theorem dX12_rounds_59 : decode mX12_rounds.2.1 59 = .ok (.iinc 2 1, 3) := by decide +kernel
theorem dX12_rounds_62 : decode mX12_rounds.2.1 62 = .ok (.goto (-30), 3) := by decide +kernel
theorem dX12_rounds_65 : decode mX12_rounds.2.1 65 = .ok (.aload_n 0, 1) := by decide +kernel
theorem dX12_rounds_66 : decode mX12_rounds.2.1 66 = .ok (.getfield 37, 3) := by decide +kernel
theorem dX12_rounds_69 : decode mX12_rounds.2.1 69 = .ok (.iconst 3, 1) := by decide +kernel
theorem dX12_rounds_70 : decode mX12_rounds.2.1 70 = .ok (.iaload, 1) := by decide +kernel
theorem dX12_rounds_71 : decode mX12_rounds.2.1 71 = .ok (.iload_n 3, 1) := by decide +kernel
theorem dX12_rounds_72 : decode mX12_rounds.2.1 72 = .ok (.isub, 1) := by decide +kernel
theorem dX12_rounds_73 : decode mX12_rounds.2.1 73 = .ok (.istore 4, 2) := by decide +kernel
theorem dX12_rounds_75 : decode mX12_rounds.2.1 75 = .ok (.aload_n 0, 1) := by decide +kernel
theorem dX12_rounds_76 : decode mX12_rounds.2.1 76 = .ok (.invokevirtual 237, 3) := by decide +kernel
theorem dX12_rounds_79 : decode mX12_rounds.2.1 79 = .ok (.ifCond .ne 7, 3) := by decide +kernel
theorem dX12_rounds_82 : decode mX12_rounds.2.1 82 = .ok (.iconst 1, 1) := by decide +kernel
theorem dX12_rounds_83 : decode mX12_rounds.2.1 83 = .ok (.goto 4, 3) := by decide +kernel
theorem dX12_rounds_86 : decode mX12_rounds.2.1 86 = .ok (.iconst 0, 1) := by decide +kernel
theorem dX12_rounds_87 : decode mX12_rounds.2.1 87 = .ok (.istore 5, 2) := by decide +kernel
theorem dX12_rounds_89 : decode mX12_rounds.2.1 89 = .ok (.aload_n 0, 1) := by decide +kernel
theorem dX12_rounds_90 : decode mX12_rounds.2.1 90 = .ok (.invokevirtual 308, 3) := by decide +kernel
theorem dX12_rounds_93 : decode mX12_rounds.2.1 93 = .ok (.iload 5, 2) := by decide +kernel
theorem dX12_rounds_95 : decode mX12_rounds.2.1 95 = .ok (.ifCond .ne 8, 3) := by decide +kernel
theorem dX12_rounds_98 : decode mX12_rounds.2.1 98 = .ok (.bipush (-2), 2) := by decide +kernel
theorem dX12_rounds_100 : decode mX12_rounds.2.1 100 = .ok (.goto 13, 3) := by decide +kernel
theorem dX12_rounds_103 : decode mX12_rounds.2.1 103 = .ok (.iload_n 1, 1) := by decide +kernel
theorem dX12_rounds_104 : decode mX12_rounds.2.1 104 = .ok (.ifCond .ne 7, 3) := by decide +kernel
theorem dX12_rounds_107 : decode mX12_rounds.2.1 107 = .ok (.iload_n 2, 1) := by decide +kernel
theorem dX12_rounds_108 : decode mX12_rounds.2.1 108 = .ok (.goto 5, 3) := by decide +kernel
theorem dX12_rounds_111 : decode mX12_rounds.2.1 111 = .ok (.iload 4, 2) := by decide +kernel
theorem dX12_rounds_113 : decode mX12_rounds.2.1 113 = .ok (.ireturn, 1) := by decide +kernel
theorem dX12_sample_0 : decode mX12_sample.2.1 0 = .ok (.aload_n 0, 1) := by decide +kernel
theorem dX12_sample_1 : decode mX12_sample.2.1 1 = .ok (.getfield 37, 3) := by decide +kernel
theorem dX12_sample_4 : decode mX12_sample.2.1 4 = .ok (.iconst 0, 1) := by decide +kernel
theorem dX12_sample_5 : decode mX12_sample.2.1 5 = .ok (.iaload, 1) := by decide +kernel
theorem dX12_sample_6 : decode mX12_sample.2.1 6 = .ok (.iconst 1, 1) := by decide +kernel
theorem dX12_sample_7 : decode mX12_sample.2.1 7 = .ok (.if_icmp .eq 5, 3) := by decide +kernel
theorem dX12_sample_10 : decode mX12_sample.2.1 10 = .ok (.iconst (-1), 1) := by decide +kernel
theorem dX12_sample_11 : decode mX12_sample.2.1 11 = .ok (.ireturn, 1) := by decide +kernel
theorem dX12_sample_12 : decode mX12_sample.2.1 12 = .ok (.aload_n 0, 1) := by decide +kernel
theorem dX12_sample_13 : decode mX12_sample.2.1 13 = .ok (.invokevirtual 149, 3) := by decide +kernel
theorem dX12_sample_16 : decode mX12_sample.2.1 16 = .ok (.aload_n 0, 1) := by decide +kernel
theorem dX12_sample_17 : decode mX12_sample.2.1 17 = .ok (.invokevirtual 158, 3) := by decide +kernel
theorem dX12_sample_20 : decode mX12_sample.2.1 20 = .ok (.aload_n 0, 1) := by decide +kernel
theorem dX12_sample_21 : decode mX12_sample.2.1 21 = .ok (.getfield 37, 3) := by decide +kernel
theorem dX12_sample_24 : decode mX12_sample.2.1 24 = .ok (.iconst 4, 1) := by decide +kernel
theorem dX12_sample_25 : decode mX12_sample.2.1 25 = .ok (.iaload, 1) := by decide +kernel
theorem dX12_sample_26 : decode mX12_sample.2.1 26 = .ok (.ireturn, 1) := by decide +kernel
theorem dX12_samples_0 : decode mX12_samples.2.1 0 = .ok (.iconst 0, 1) := by decide +kernel
theorem dX12_samples_1 : decode mX12_samples.2.1 1 = .ok (.istore_n 1, 1) := by decide +kernel
theorem dX12_samples_2 : decode mX12_samples.2.1 2 = .ok (.iconst 0, 1) := by decide +kernel
theorem dX12_samples_3 : decode mX12_samples.2.1 3 = .ok (.istore_n 2, 1) := by decide +kernel
theorem dX12_samples_4 : decode mX12_samples.2.1 4 = .ok (.iload_n 2, 1) := by decide +kernel
theorem dX12_samples_5 : decode mX12_samples.2.1 5 = .ok (.aload_n 0, 1) := by decide +kernel
theorem dX12_samples_6 : decode mX12_samples.2.1 6 = .ok (.getfield 27, 3) := by decide +kernel
theorem dX12_samples_9 : decode mX12_samples.2.1 9 = .ok (.iconst 4, 1) := by decide +kernel
theorem dX12_samples_10 : decode mX12_samples.2.1 10 = .ok (.iaload, 1) := by decide +kernel
theorem dX12_samples_11 : decode mX12_samples.2.1 11 = .ok (.if_icmp .ge 172, 3) := by decide +kernel
theorem dX12_samples_14 : decode mX12_samples.2.1 14 = .ok (.aload_n 0, 1) := by decide +kernel
theorem dX12_samples_15 : decode mX12_samples.2.1 15 = .ok (.getfield 37, 3) := by decide +kernel
theorem dX12_samples_18 : decode mX12_samples.2.1 18 = .ok (.iconst 1, 1) := by decide +kernel
theorem dX12_samples_19 : decode mX12_samples.2.1 19 = .ok (.iaload, 1) := by decide +kernel
theorem dX12_samples_20 : decode mX12_samples.2.1 20 = .ok (.iconst 1, 1) := by decide +kernel
theorem dX12_samples_21 : decode mX12_samples.2.1 21 = .ok (.if_icmp .le 162, 3) := by decide +kernel
theorem dX12_samples_24 : decode mX12_samples.2.1 24 = .ok (.aload_n 0, 1) := by decide +kernel
theorem dX12_samples_25 : decode mX12_samples.2.1 25 = .ok (.aload_n 0, 1) := by decide +kernel
theorem dX12_samples_26 : decode mX12_samples.2.1 26 = .ok (.getfield 37, 3) := by decide +kernel
theorem dX12_samples_29 : decode mX12_samples.2.1 29 = .ok (.iconst 1, 1) := by decide +kernel
theorem dX12_samples_30 : decode mX12_samples.2.1 30 = .ok (.iaload, 1) := by decide +kernel
theorem dX12_samples_31 : decode mX12_samples.2.1 31 = .ok (.invokevirtual 135, 3) := by decide +kernel
theorem dX12_samples_34 : decode mX12_samples.2.1 34 = .ok (.istore_n 3, 1) := by decide +kernel
theorem dX12_samples_35 : decode mX12_samples.2.1 35 = .ok (.aload_n 0, 1) := by decide +kernel
theorem dX12_samples_36 : decode mX12_samples.2.1 36 = .ok (.getfield 37, 3) := by decide +kernel
theorem dX12_samples_39 : decode mX12_samples.2.1 39 = .ok (.iconst 4, 1) := by decide +kernel
theorem dX12_samples_40 : decode mX12_samples.2.1 40 = .ok (.dup2, 1) := by decide +kernel
theorem dX12_samples_41 : decode mX12_samples.2.1 41 = .ok (.iaload, 1) := by decide +kernel
theorem dX12_samples_42 : decode mX12_samples.2.1 42 = .ok (.aload_n 0, 1) := by decide +kernel
theorem dX12_samples_43 : decode mX12_samples.2.1 43 = .ok (.getfield 37, 3) := by decide +kernel
theorem dX12_samples_46 : decode mX12_samples.2.1 46 = .ok (.sipush 276, 3) := by decide +kernel
theorem dX12_samples_49 : decode mX12_samples.2.1 49 = .ok (.iload_n 3, 1) := by decide +kernel
theorem dX12_samples_50 : decode mX12_samples.2.1 50 = .ok (.iadd, 1) := by decide +kernel
theorem dX12_samples_51 : decode mX12_samples.2.1 51 = .ok (.iaload, 1) := by decide +kernel
theorem dX12_samples_52 : decode mX12_samples.2.1 52 = .ok (.aload_n 0, 1) := by decide +kernel
theorem dX12_samples_53 : decode mX12_samples.2.1 53 = .ok (.getfield 37, 3) := by decide +kernel
theorem dX12_samples_56 : decode mX12_samples.2.1 56 = .ok (.sipush 532, 3) := by decide +kernel
theorem dX12_samples_59 : decode mX12_samples.2.1 59 = .ok (.iload_n 3, 1) := by decide +kernel
theorem dX12_samples_60 : decode mX12_samples.2.1 60 = .ok (.iadd, 1) := by decide +kernel
theorem dX12_samples_61 : decode mX12_samples.2.1 61 = .ok (.iaload, 1) := by decide +kernel
theorem dX12_samples_62 : decode mX12_samples.2.1 62 = .ok (.if_icmp .ne 7, 3) := by decide +kernel
theorem dX12_samples_65 : decode mX12_samples.2.1 65 = .ok (.iconst 0, 1) := by decide +kernel
theorem dX12_samples_66 : decode mX12_samples.2.1 66 = .ok (.goto 4, 3) := by decide +kernel
theorem dX12_samples_69 : decode mX12_samples.2.1 69 = .ok (.iconst 1, 1) := by decide +kernel
theorem dX12_samples_70 : decode mX12_samples.2.1 70 = .ok (.iadd, 1) := by decide +kernel
theorem dX12_samples_71 : decode mX12_samples.2.1 71 = .ok (.iastore, 1) := by decide +kernel
theorem dX12_samples_72 : decode mX12_samples.2.1 72 = .ok (.aload_n 0, 1) := by decide +kernel
theorem dX12_samples_73 : decode mX12_samples.2.1 73 = .ok (.getfield 37, 3) := by decide +kernel
theorem dX12_samples_76 : decode mX12_samples.2.1 76 = .ok (.iconst 1, 1) := by decide +kernel
theorem dX12_samples_77 : decode mX12_samples.2.1 77 = .ok (.dup2, 1) := by decide +kernel
theorem dX12_samples_78 : decode mX12_samples.2.1 78 = .ok (.iaload, 1) := by decide +kernel
theorem dX12_samples_79 : decode mX12_samples.2.1 79 = .ok (.iconst 1, 1) := by decide +kernel
theorem dX12_samples_80 : decode mX12_samples.2.1 80 = .ok (.isub, 1) := by decide +kernel
theorem dX12_samples_81 : decode mX12_samples.2.1 81 = .ok (.iastore, 1) := by decide +kernel
theorem dX12_samples_82 : decode mX12_samples.2.1 82 = .ok (.iload_n 3, 1) := by decide +kernel
theorem dX12_samples_83 : decode mX12_samples.2.1 83 = .ok (.istore 4, 2) := by decide +kernel
theorem dX12_samples_85 : decode mX12_samples.2.1 85 = .ok (.iload 4, 2) := by decide +kernel
theorem dX12_samples_87 : decode mX12_samples.2.1 87 = .ok (.aload_n 0, 1) := by decide +kernel
theorem dX12_samples_88 : decode mX12_samples.2.1 88 = .ok (.getfield 37, 3) := by decide +kernel
theorem dX12_samples_91 : decode mX12_samples.2.1 91 = .ok (.iconst 1, 1) := by decide +kernel
theorem dX12_samples_92 : decode mX12_samples.2.1 92 = .ok (.iaload, 1) := by decide +kernel
theorem dX12_samples_93 : decode mX12_samples.2.1 93 = .ok (.if_icmp .ge 81, 3) := by decide +kernel
theorem dX12_samples_96 : decode mX12_samples.2.1 96 = .ok (.aload_n 0, 1) := by decide +kernel
theorem dX12_samples_97 : decode mX12_samples.2.1 97 = .ok (.getfield 37, 3) := by decide +kernel
theorem dX12_samples_100 : decode mX12_samples.2.1 100 = .ok (.sipush 276, 3) := by decide +kernel
theorem dX12_samples_103 : decode mX12_samples.2.1 103 = .ok (.iload 4, 2) := by decide +kernel
theorem dX12_samples_105 : decode mX12_samples.2.1 105 = .ok (.iadd, 1) := by decide +kernel
theorem dX12_samples_106 : decode mX12_samples.2.1 106 = .ok (.aload_n 0, 1) := by decide +kernel
theorem dX12_samples_107 : decode mX12_samples.2.1 107 = .ok (.getfield 37, 3) := by decide +kernel
theorem dX12_samples_110 : decode mX12_samples.2.1 110 = .ok (.sipush 276, 3) := by decide +kernel
theorem dX12_samples_113 : decode mX12_samples.2.1 113 = .ok (.iload 4, 2) := by decide +kernel
theorem dX12_samples_115 : decode mX12_samples.2.1 115 = .ok (.iadd, 1) := by decide +kernel
theorem dX12_samples_116 : decode mX12_samples.2.1 116 = .ok (.iconst 1, 1) := by decide +kernel
theorem dX12_samples_117 : decode mX12_samples.2.1 117 = .ok (.iadd, 1) := by decide +kernel
theorem dX12_samples_118 : decode mX12_samples.2.1 118 = .ok (.iaload, 1) := by decide +kernel
theorem dX12_samples_119 : decode mX12_samples.2.1 119 = .ok (.iastore, 1) := by decide +kernel
theorem dX12_samples_120 : decode mX12_samples.2.1 120 = .ok (.aload_n 0, 1) := by decide +kernel
theorem dX12_samples_121 : decode mX12_samples.2.1 121 = .ok (.getfield 37, 3) := by decide +kernel
theorem dX12_samples_124 : decode mX12_samples.2.1 124 = .ok (.sipush 532, 3) := by decide +kernel
theorem dX12_samples_127 : decode mX12_samples.2.1 127 = .ok (.iload 4, 2) := by decide +kernel
theorem dX12_samples_129 : decode mX12_samples.2.1 129 = .ok (.iadd, 1) := by decide +kernel
theorem dX12_samples_130 : decode mX12_samples.2.1 130 = .ok (.aload_n 0, 1) := by decide +kernel
theorem dX12_samples_131 : decode mX12_samples.2.1 131 = .ok (.getfield 37, 3) := by decide +kernel
theorem dX12_samples_134 : decode mX12_samples.2.1 134 = .ok (.sipush 532, 3) := by decide +kernel
theorem dX12_samples_137 : decode mX12_samples.2.1 137 = .ok (.iload 4, 2) := by decide +kernel
theorem dX12_samples_139 : decode mX12_samples.2.1 139 = .ok (.iadd, 1) := by decide +kernel
theorem dX12_samples_140 : decode mX12_samples.2.1 140 = .ok (.iconst 1, 1) := by decide +kernel
theorem dX12_samples_141 : decode mX12_samples.2.1 141 = .ok (.iadd, 1) := by decide +kernel
theorem dX12_samples_142 : decode mX12_samples.2.1 142 = .ok (.iaload, 1) := by decide +kernel
theorem dX12_samples_143 : decode mX12_samples.2.1 143 = .ok (.iastore, 1) := by decide +kernel
theorem dX12_samples_144 : decode mX12_samples.2.1 144 = .ok (.aload_n 0, 1) := by decide +kernel
theorem dX12_samples_145 : decode mX12_samples.2.1 145 = .ok (.getfield 37, 3) := by decide +kernel
theorem dX12_samples_148 : decode mX12_samples.2.1 148 = .ok (.sipush 788, 3) := by decide +kernel
theorem dX12_samples_151 : decode mX12_samples.2.1 151 = .ok (.iload 4, 2) := by decide +kernel
theorem dX12_samples_153 : decode mX12_samples.2.1 153 = .ok (.iadd, 1) := by decide +kernel
theorem dX12_samples_154 : decode mX12_samples.2.1 154 = .ok (.aload_n 0, 1) := by decide +kernel
theorem dX12_samples_155 : decode mX12_samples.2.1 155 = .ok (.getfield 37, 3) := by decide +kernel
theorem dX12_samples_158 : decode mX12_samples.2.1 158 = .ok (.sipush 788, 3) := by decide +kernel
theorem dX12_samples_161 : decode mX12_samples.2.1 161 = .ok (.iload 4, 2) := by decide +kernel
theorem dX12_samples_163 : decode mX12_samples.2.1 163 = .ok (.iadd, 1) := by decide +kernel
theorem dX12_samples_164 : decode mX12_samples.2.1 164 = .ok (.iconst 1, 1) := by decide +kernel
theorem dX12_samples_165 : decode mX12_samples.2.1 165 = .ok (.iadd, 1) := by decide +kernel
theorem dX12_samples_166 : decode mX12_samples.2.1 166 = .ok (.iaload, 1) := by decide +kernel
theorem dX12_samples_167 : decode mX12_samples.2.1 167 = .ok (.iastore, 1) := by decide +kernel
theorem dX12_samples_168 : decode mX12_samples.2.1 168 = .ok (.iinc 4 1, 3) := by decide +kernel
theorem dX12_samples_171 : decode mX12_samples.2.1 171 = .ok (.goto (-86), 3) := by decide +kernel
theorem dX12_samples_174 : decode mX12_samples.2.1 174 = .ok (.iinc 1 1, 3) := by decide +kernel
theorem dX12_samples_177 : decode mX12_samples.2.1 177 = .ok (.iinc 2 1, 3) := by decide +kernel
theorem dX12_samples_180 : decode mX12_samples.2.1 180 = .ok (.goto (-176), 3) := by decide +kernel
theorem dX12_samples_183 : decode mX12_samples.2.1 183 = .ok (.iload_n 1, 1) := by decide +kernel
theorem dX12_samples_184 : decode mX12_samples.2.1 184 = .ok (.ifCond .ne 9, 3) := by decide +kernel
theorem dX12_samples_187 : decode mX12_samples.2.1 187 = .ok (.sipush 250, 3) := by decide +kernel
theorem dX12_samples_190 : decode mX12_samples.2.1 190 = .ok (.goto 31, 3) := by decide +kernel
theorem dX12_samples_193 : decode mX12_samples.2.1 193 = .ok (.sipush 1000, 3) := by decide +kernel
theorem dX12_samples_196 : decode mX12_samples.2.1 196 = .ok (.aload_n 0, 1) := by decide +kernel
theorem dX12_samples_197 : decode mX12_samples.2.1 197 = .ok (.getfield 37, 3) := by decide +kernel
theorem dX12_samples_200 : decode mX12_samples.2.1 200 = .ok (.iconst 4, 1) := by decide +kernel
theorem dX12_samples_201 : decode mX12_samples.2.1 201 = .ok (.iaload, 1) := by decide +kernel
theorem dX12_samples_202 : decode mX12_samples.2.1 202 = .ok (.iconst 1, 1) := by decide +kernel
theorem dX12_samples_203 : decode mX12_samples.2.1 203 = .ok (.iadd, 1) := by decide +kernel
theorem dX12_samples_204 : decode mX12_samples.2.1 204 = .ok (.iconst 4, 1) := by decide +kernel
theorem dX12_samples_205 : decode mX12_samples.2.1 205 = .ok (.aload_n 0, 1) := by decide +kernel
theorem dX12_samples_206 : decode mX12_samples.2.1 206 = .ok (.getfield 37, 3) := by decide +kernel
theorem dX12_samples_209 : decode mX12_samples.2.1 209 = .ok (.iconst 4, 1) := by decide +kernel
theorem dX12_samples_210 : decode mX12_samples.2.1 210 = .ok (.iaload, 1) := by decide +kernel
theorem dX12_samples_211 : decode mX12_samples.2.1 211 = .ok (.imul, 1) := by decide +kernel
theorem dX12_samples_212 : decode mX12_samples.2.1 212 = .ok (.iconst 4, 1) := by decide +kernel
theorem dX12_samples_213 : decode mX12_samples.2.1 213 = .ok (.iadd, 1) := by decide +kernel
theorem dX12_samples_214 : decode mX12_samples.2.1 214 = .ok (.invokestatic 155, 3) := by decide +kernel
theorem dX12_samples_217 : decode mX12_samples.2.1 217 = .ok (.iadd, 1) := by decide +kernel
theorem dX12_samples_218 : decode mX12_samples.2.1 218 = .ok (.imul, 1) := by decide +kernel
theorem dX12_samples_219 : decode mX12_samples.2.1 219 = .ok (.iload_n 1, 1) := by decide +kernel
theorem dX12_samples_220 : decode mX12_samples.2.1 220 = .ok (.idiv, 1) := by decide +kernel
theorem dX12_samples_221 : decode mX12_samples.2.1 221 = .ok (.istore_n 2, 1) := by decide +kernel
theorem dX12_samples_222 : decode mX12_samples.2.1 222 = .ok (.aload_n 0, 1) := by decide +kernel
theorem dX12_samples_223 : decode mX12_samples.2.1 223 = .ok (.getfield 37, 3) := by decide +kernel
theorem dX12_samples_226 : decode mX12_samples.2.1 226 = .ok (.iconst 5, 1) := by decide +kernel
theorem dX12_samples_227 : decode mX12_samples.2.1 227 = .ok (.iload_n 2, 1) := by decide +kernel
theorem dX12_samples_228 : decode mX12_samples.2.1 228 = .ok (.sipush 500, 3) := by decide +kernel
theorem dX12_samples_231 : decode mX12_samples.2.1 231 = .ok (.if_icmp .le 9, 3) := by decide +kernel
theorem dX12_samples_234 : decode mX12_samples.2.1 234 = .ok (.sipush 500, 3) := by decide +kernel
theorem dX12_samples_237 : decode mX12_samples.2.1 237 = .ok (.goto 4, 3) := by decide +kernel
theorem dX12_samples_240 : decode mX12_samples.2.1 240 = .ok (.iload_n 2, 1) := by decide +kernel
theorem dX12_samples_241 : decode mX12_samples.2.1 241 = .ok (.iastore, 1) := by decide +kernel
theorem dX12_samples_242 : decode mX12_samples.2.1 242 = .ok (.aload_n 0, 1) := by decide +kernel
theorem dX12_samples_243 : decode mX12_samples.2.1 243 = .ok (.getfield 37, 3) := by decide +kernel
theorem dX12_samples_246 : decode mX12_samples.2.1 246 = .ok (.iconst 0, 1) := by decide +kernel
theorem dX12_samples_247 : decode mX12_samples.2.1 247 = .ok (.iconst 2, 1) := by decide +kernel
theorem dX12_samples_248 : decode mX12_samples.2.1 248 = .ok (.iastore, 1) := by decide +kernel
theorem dX12_samples_249 : decode mX12_samples.2.1 249 = .ok (.return_, 1) := by decide +kernel
theorem dX12_secret_0 : decode mX12_secret.2.1 0 = .ok (.aload_n 0, 1) := by decide +kernel
theorem dX12_secret_1 : decode mX12_secret.2.1 1 = .ok (.getfield 37, 3) := by decide +kernel
theorem dX12_secret_4 : decode mX12_secret.2.1 4 = .ok (.iconst 0, 1) := by decide +kernel
theorem dX12_secret_5 : decode mX12_secret.2.1 5 = .ok (.iaload, 1) := by decide +kernel
theorem dX12_secret_6 : decode mX12_secret.2.1 6 = .ok (.iconst 5, 1) := by decide +kernel
theorem dX12_secret_7 : decode mX12_secret.2.1 7 = .ok (.if_icmp .eq 5, 3) := by decide +kernel
theorem dX12_secret_10 : decode mX12_secret.2.1 10 = .ok (.iconst (-1), 1) := by decide +kernel
theorem dX12_secret_11 : decode mX12_secret.2.1 11 = .ok (.ireturn, 1) := by decide +kernel
theorem dX12_secret_12 : decode mX12_secret.2.1 12 = .ok (.aload_n 0, 1) := by decide +kernel
theorem dX12_secret_13 : decode mX12_secret.2.1 13 = .ok (.invokevirtual 293, 3) := by decide +kernel
theorem dX12_secret_16 : decode mX12_secret.2.1 16 = .ok (.pop, 1) := by decide +kernel
theorem dX12_secret_17 : decode mX12_secret.2.1 17 = .ok (.iconst 0, 1) := by decide +kernel
theorem dX12_secret_18 : decode mX12_secret.2.1 18 = .ok (.istore_n 2, 1) := by decide +kernel
theorem dX12_secret_19 : decode mX12_secret.2.1 19 = .ok (.iload_n 2, 1) := by decide +kernel
theorem dX12_secret_20 : decode mX12_secret.2.1 20 = .ok (.aload_n 0, 1) := by decide +kernel
theorem dX12_secret_21 : decode mX12_secret.2.1 21 = .ok (.getfield 37, 3) := by decide +kernel
theorem dX12_secret_24 : decode mX12_secret.2.1 24 = .ok (.iconst 1, 1) := by decide +kernel
theorem dX12_secret_25 : decode mX12_secret.2.1 25 = .ok (.iaload, 1) := by decide +kernel
theorem dX12_secret_26 : decode mX12_secret.2.1 26 = .ok (.if_icmp .ge 33, 3) := by decide +kernel
theorem dX12_secret_29 : decode mX12_secret.2.1 29 = .ok (.iload_n 1, 1) := by decide +kernel
theorem dX12_secret_30 : decode mX12_secret.2.1 30 = .ok (.ifCond .eq 29, 3) := by decide +kernel
theorem dX12_secret_33 : decode mX12_secret.2.1 33 = .ok (.aload_n 0, 1) := by decide +kernel
theorem dX12_secret_34 : decode mX12_secret.2.1 34 = .ok (.iload_n 2, 1) := by decide +kernel
theorem dX12_secret_35 : decode mX12_secret.2.1 35 = .ok (.invokevirtual 298, 3) := by decide +kernel
theorem dX12_secret_38 : decode mX12_secret.2.1 38 = .ok (.ifCond .ne 6, 3) := by decide +kernel
theorem dX12_secret_41 : decode mX12_secret.2.1 41 = .ok (.goto 12, 3) := by decide +kernel
theorem dX12_secret_44 : decode mX12_secret.2.1 44 = .ok (.aload_n 0, 1) := by decide +kernel
theorem dX12_secret_45 : decode mX12_secret.2.1 45 = .ok (.iload_n 2, 1) := by decide +kernel
theorem dX12_secret_46 : decode mX12_secret.2.1 46 = .ok (.invokevirtual 290, 3) := by decide +kernel
theorem dX12_secret_49 : decode mX12_secret.2.1 49 = .ok (.aload_n 0, 1) := by decide +kernel
theorem dX12_secret_50 : decode mX12_secret.2.1 50 = .ok (.invokevirtual 281, 3) := by decide +kernel
theorem dX12_secret_53 : decode mX12_secret.2.1 53 = .ok (.iinc 2 1, 3) := by decide +kernel
theorem dX12_secret_56 : decode mX12_secret.2.1 56 = .ok (.goto (-37), 3) := by decide +kernel
theorem dX12_secret_59 : decode mX12_secret.2.1 59 = .ok (.aload_n 0, 1) := by decide +kernel
theorem dX12_secret_60 : decode mX12_secret.2.1 60 = .ok (.getfield 275, 3) := by decide +kernel
theorem dX12_secret_63 : decode mX12_secret.2.1 63 = .ok (.istore_n 2, 1) := by decide +kernel
theorem dX12_secret_64 : decode mX12_secret.2.1 64 = .ok (.iconst 0, 1) := by decide +kernel
theorem dX12_secret_65 : decode mX12_secret.2.1 65 = .ok (.istore_n 3, 1) := by decide +kernel
theorem dX12_secret_66 : decode mX12_secret.2.1 66 = .ok (.iload_n 3, 1) := by decide +kernel
theorem dX12_secret_67 : decode mX12_secret.2.1 67 = .ok (.aload_n 0, 1) := by decide +kernel
theorem dX12_secret_68 : decode mX12_secret.2.1 68 = .ok (.getfield 37, 3) := by decide +kernel
theorem dX12_secret_71 : decode mX12_secret.2.1 71 = .ok (.bipush 6, 2) := by decide +kernel
theorem dX12_secret_73 : decode mX12_secret.2.1 73 = .ok (.iaload, 1) := by decide +kernel
theorem dX12_secret_74 : decode mX12_secret.2.1 74 = .ok (.if_icmp .ge 45, 3) := by decide +kernel
theorem dX12_secret_77 : decode mX12_secret.2.1 77 = .ok (.iconst 0, 1) := by decide +kernel
theorem dX12_secret_78 : decode mX12_secret.2.1 78 = .ok (.istore 4, 2) := by decide +kernel
theorem dX12_secret_80 : decode mX12_secret.2.1 80 = .ok (.iload 4, 2) := by decide +kernel
theorem dX12_secret_82 : decode mX12_secret.2.1 82 = .ok (.bipush 8, 2) := by decide +kernel
theorem dX12_secret_84 : decode mX12_secret.2.1 84 = .ok (.if_icmp .ge 17, 3) := by decide +kernel
theorem dX12_secret_87 : decode mX12_secret.2.1 87 = .ok (.aload_n 0, 1) := by decide +kernel
theorem dX12_secret_88 : decode mX12_secret.2.1 88 = .ok (.getfield 58, 3) := by decide +kernel
theorem dX12_secret_91 : decode mX12_secret.2.1 91 = .ok (.iload 4, 2) := by decide +kernel
theorem dX12_secret_93 : decode mX12_secret.2.1 93 = .ok (.iconst 0, 1) := by decide +kernel
theorem dX12_secret_94 : decode mX12_secret.2.1 94 = .ok (.iastore, 1) := by decide +kernel
theorem dX12_secret_95 : decode mX12_secret.2.1 95 = .ok (.iinc 4 1, 3) := by decide +kernel
theorem dX12_secret_98 : decode mX12_secret.2.1 98 = .ok (.goto (-18), 3) := by decide +kernel
theorem dX12_secret_101 : decode mX12_secret.2.1 101 = .ok (.aload_n 0, 1) := by decide +kernel
theorem dX12_secret_102 : decode mX12_secret.2.1 102 = .ok (.sipush 2870, 3) := by decide +kernel
theorem dX12_secret_105 : decode mX12_secret.2.1 105 = .ok (.iload_n 3, 1) := by decide +kernel
theorem dX12_secret_106 : decode mX12_secret.2.1 106 = .ok (.invokevirtual 257, 3) := by decide +kernel
theorem dX12_secret_109 : decode mX12_secret.2.1 109 = .ok (.aload_n 0, 1) := by decide +kernel
theorem dX12_secret_110 : decode mX12_secret.2.1 110 = .ok (.invokevirtual 281, 3) := by decide +kernel
theorem dX12_secret_113 : decode mX12_secret.2.1 113 = .ok (.iinc 3 1, 3) := by decide +kernel
theorem dX12_secret_116 : decode mX12_secret.2.1 116 = .ok (.goto (-50), 3) := by decide +kernel
theorem dX12_secret_119 : decode mX12_secret.2.1 119 = .ok (.aload_n 0, 1) := by decide +kernel
theorem dX12_secret_120 : decode mX12_secret.2.1 120 = .ok (.getfield 275, 3) := by decide +kernel
theorem dX12_secret_123 : decode mX12_secret.2.1 123 = .ok (.iload_n 2, 1) := by decide +kernel
theorem dX12_secret_124 : decode mX12_secret.2.1 124 = .ok (.isub, 1) := by decide +kernel
theorem dX12_secret_125 : decode mX12_secret.2.1 125 = .ok (.ireturn, 1) := by decide +kernel
theorem dX12_seeds_0 : decode mX12_seeds.2.1 0 = .ok (.iload_n 1, 1) := by decide +kernel
theorem dX12_seeds_1 : decode mX12_seeds.2.1 1 = .ok (.i2l, 1) := by decide +kernel
theorem dX12_seeds_2 : decode mX12_seeds.2.1 2 = .ok (.lconst 1, 1) := by decide +kernel
theorem dX12_seeds_3 : decode mX12_seeds.2.1 3 = .ok (.ldc2_w 314, 3) := by decide +kernel
theorem dX12_seeds_6 : decode mX12_seeds.2.1 6 = .ok (.invokestatic 76, 3) := by decide +kernel
theorem dX12_seeds_9 : decode mX12_seeds.2.1 9 = .ok (.ifCond .eq 15, 3) := by decide +kernel
theorem dX12_seeds_12 : decode mX12_seeds.2.1 12 = .ok (.iload_n 2, 1) := by decide +kernel
theorem dX12_seeds_13 : decode mX12_seeds.2.1 13 = .ok (.i2l, 1) := by decide +kernel
theorem dX12_seeds_14 : decode mX12_seeds.2.1 14 = .ok (.lconst 0, 1) := by decide +kernel
theorem dX12_seeds_15 : decode mX12_seeds.2.1 15 = .ok (.ldc2_w 301, 3) := by decide +kernel
theorem dX12_seeds_18 : decode mX12_seeds.2.1 18 = .ok (.invokestatic 76, 3) := by decide +kernel
theorem dX12_seeds_21 : decode mX12_seeds.2.1 21 = .ok (.ifCond .ne 5, 3) := by decide +kernel
theorem dX12_seeds_24 : decode mX12_seeds.2.1 24 = .ok (.iconst (-1), 1) := by decide +kernel
theorem dX12_seeds_25 : decode mX12_seeds.2.1 25 = .ok (.ireturn, 1) := by decide +kernel
theorem dX12_seeds_26 : decode mX12_seeds.2.1 26 = .ok (.aload_n 0, 1) := by decide +kernel
theorem dX12_seeds_27 : decode mX12_seeds.2.1 27 = .ok (.invokevirtual 305, 3) := by decide +kernel
theorem dX12_seeds_30 : decode mX12_seeds.2.1 30 = .ok (.iconst 0, 1) := by decide +kernel
theorem dX12_seeds_31 : decode mX12_seeds.2.1 31 = .ok (.istore_n 3, 1) := by decide +kernel
theorem dX12_seeds_32 : decode mX12_seeds.2.1 32 = .ok (.iconst 0, 1) := by decide +kernel
theorem dX12_seeds_33 : decode mX12_seeds.2.1 33 = .ok (.istore 4, 2) := by decide +kernel
theorem dX12_seeds_35 : decode mX12_seeds.2.1 35 = .ok (.iconst 0, 1) := by decide +kernel
theorem dX12_seeds_36 : decode mX12_seeds.2.1 36 = .ok (.istore 5, 2) := by decide +kernel
theorem dX12_seeds_38 : decode mX12_seeds.2.1 38 = .ok (.iconst 0, 1) := by decide +kernel
theorem dX12_seeds_39 : decode mX12_seeds.2.1 39 = .ok (.istore 6, 2) := by decide +kernel
theorem dX12_seeds_41 : decode mX12_seeds.2.1 41 = .ok (.iload 6, 2) := by decide +kernel
theorem dX12_seeds_43 : decode mX12_seeds.2.1 43 = .ok (.iload_n 1, 1) := by decide +kernel
theorem dX12_seeds_44 : decode mX12_seeds.2.1 44 = .ok (.if_icmp .ge 60, 3) := by decide +kernel
theorem dX12_seeds_47 : decode mX12_seeds.2.1 47 = .ok (.aload_n 0, 1) := by decide +kernel
theorem dX12_seeds_48 : decode mX12_seeds.2.1 48 = .ok (.aload_n 0, 1) := by decide +kernel
theorem dX12_seeds_49 : decode mX12_seeds.2.1 49 = .ok (.getfield 27, 3) := by decide +kernel
theorem dX12_seeds_52 : decode mX12_seeds.2.1 52 = .ok (.iconst 1, 1) := by decide +kernel
theorem dX12_seeds_53 : decode mX12_seeds.2.1 53 = .ok (.iaload, 1) := by decide +kernel
theorem dX12_seeds_54 : decode mX12_seeds.2.1 54 = .ok (.iload 6, 2) := by decide +kernel
theorem dX12_seeds_56 : decode mX12_seeds.2.1 56 = .ok (.iadd, 1) := by decide +kernel
theorem dX12_seeds_57 : decode mX12_seeds.2.1 57 = .ok (.invokevirtual 316, 3) := by decide +kernel
theorem dX12_seeds_60 : decode mX12_seeds.2.1 60 = .ok (.ifCond .ne 6, 3) := by decide +kernel
theorem dX12_seeds_63 : decode mX12_seeds.2.1 63 = .ok (.goto 35, 3) := by decide +kernel
theorem dX12_seeds_66 : decode mX12_seeds.2.1 66 = .ok (.iinc 3 1, 3) := by decide +kernel
theorem dX12_seeds_69 : decode mX12_seeds.2.1 69 = .ok (.iload 4, 2) := by decide +kernel
theorem dX12_seeds_71 : decode mX12_seeds.2.1 71 = .ok (.aload_n 0, 1) := by decide +kernel
theorem dX12_seeds_72 : decode mX12_seeds.2.1 72 = .ok (.invokevirtual 319, 3) := by decide +kernel
theorem dX12_seeds_75 : decode mX12_seeds.2.1 75 = .ok (.ifCond .eq 7, 3) := by decide +kernel
theorem dX12_seeds_78 : decode mX12_seeds.2.1 78 = .ok (.iconst 0, 1) := by decide +kernel
theorem dX12_seeds_79 : decode mX12_seeds.2.1 79 = .ok (.goto 4, 3) := by decide +kernel
theorem dX12_seeds_82 : decode mX12_seeds.2.1 82 = .ok (.iconst 1, 1) := by decide +kernel
theorem dX12_seeds_83 : decode mX12_seeds.2.1 83 = .ok (.iadd, 1) := by decide +kernel
theorem dX12_seeds_84 : decode mX12_seeds.2.1 84 = .ok (.istore 4, 2) := by decide +kernel
theorem dX12_seeds_86 : decode mX12_seeds.2.1 86 = .ok (.iload 5, 2) := by decide +kernel
theorem dX12_seeds_88 : decode mX12_seeds.2.1 88 = .ok (.aload_n 0, 1) := by decide +kernel
theorem dX12_seeds_89 : decode mX12_seeds.2.1 89 = .ok (.getfield 37, 3) := by decide +kernel
theorem dX12_seeds_92 : decode mX12_seeds.2.1 92 = .ok (.bipush 6, 2) := by decide +kernel
theorem dX12_seeds_94 : decode mX12_seeds.2.1 94 = .ok (.iaload, 1) := by decide +kernel
theorem dX12_seeds_95 : decode mX12_seeds.2.1 95 = .ok (.iadd, 1) := by decide +kernel
theorem dX12_seeds_96 : decode mX12_seeds.2.1 96 = .ok (.istore 5, 2) := by decide +kernel
theorem dX12_seeds_98 : decode mX12_seeds.2.1 98 = .ok (.iinc 6 1, 3) := by decide +kernel
theorem dX12_seeds_101 : decode mX12_seeds.2.1 101 = .ok (.goto (-60), 3) := by decide +kernel
theorem dX12_seeds_104 : decode mX12_seeds.2.1 104 = .ok (.aload_n 0, 1) := by decide +kernel
theorem dX12_seeds_105 : decode mX12_seeds.2.1 105 = .ok (.invokevirtual 308, 3) := by decide +kernel
theorem dX12_seeds_108 : decode mX12_seeds.2.1 108 = .ok (.iload_n 2, 1) := by decide +kernel
theorem dX12_seeds_109 : decode mX12_seeds.2.1 109 = .ok (.ifCond .ne 7, 3) := by decide +kernel
theorem dX12_seeds_112 : decode mX12_seeds.2.1 112 = .ok (.iload_n 3, 1) := by decide +kernel
theorem dX12_seeds_113 : decode mX12_seeds.2.1 113 = .ok (.goto 15, 3) := by decide +kernel
theorem dX12_seeds_116 : decode mX12_seeds.2.1 116 = .ok (.iload_n 2, 1) := by decide +kernel
theorem dX12_seeds_117 : decode mX12_seeds.2.1 117 = .ok (.iconst 1, 1) := by decide +kernel
theorem dX12_seeds_118 : decode mX12_seeds.2.1 118 = .ok (.if_icmp .ne 8, 3) := by decide +kernel
theorem dX12_seeds_121 : decode mX12_seeds.2.1 121 = .ok (.iload 4, 2) := by decide +kernel
theorem dX12_seeds_123 : decode mX12_seeds.2.1 123 = .ok (.goto 5, 3) := by decide +kernel
theorem dX12_seeds_126 : decode mX12_seeds.2.1 126 = .ok (.iload 5, 2) := by decide +kernel
theorem dX12_seeds_128 : decode mX12_seeds.2.1 128 = .ok (.ireturn, 1) := by decide +kernel
theorem dX12_send_0 : decode mX12_send.2.1 0 = .ok (.aload_n 0, 1) := by decide +kernel
theorem dX12_send_1 : decode mX12_send.2.1 1 = .ok (.getfield 37, 3) := by decide +kernel
theorem dX12_send_4 : decode mX12_send.2.1 4 = .ok (.iconst 0, 1) := by decide +kernel
theorem dX12_send_5 : decode mX12_send.2.1 5 = .ok (.iaload, 1) := by decide +kernel
theorem dX12_send_6 : decode mX12_send.2.1 6 = .ok (.iconst 5, 1) := by decide +kernel
theorem dX12_send_7 : decode mX12_send.2.1 7 = .ok (.if_icmp .ne 35, 3) := by decide +kernel
theorem dX12_send_10 : decode mX12_send.2.1 10 = .ok (.iload_n 1, 1) := by decide +kernel
theorem dX12_send_11 : decode mX12_send.2.1 11 = .ok (.i2l, 1) := by decide +kernel
theorem dX12_send_12 : decode mX12_send.2.1 12 = .ok (.lconst 0, 1) := by decide +kernel
theorem dX12_send_13 : decode mX12_send.2.1 13 = .ok (.ldc2_w 227, 3) := by decide +kernel
theorem dX12_send_16 : decode mX12_send.2.1 16 = .ok (.invokestatic 76, 3) := by decide +kernel
theorem dX12_send_19 : decode mX12_send.2.1 19 = .ok (.ifCond .eq 23, 3) := by decide +kernel
theorem dX12_send_22 : decode mX12_send.2.1 22 = .ok (.aload_n 0, 1) := by decide +kernel
theorem dX12_send_23 : decode mX12_send.2.1 23 = .ok (.getfield 37, 3) := by decide +kernel
theorem dX12_send_26 : decode mX12_send.2.1 26 = .ok (.bipush 9, 2) := by decide +kernel
theorem dX12_send_28 : decode mX12_send.2.1 28 = .ok (.iaload, 1) := by decide +kernel
theorem dX12_send_29 : decode mX12_send.2.1 29 = .ok (.bipush 8, 2) := by decide +kernel
theorem dX12_send_31 : decode mX12_send.2.1 31 = .ok (.iadd, 1) := by decide +kernel
theorem dX12_send_32 : decode mX12_send.2.1 32 = .ok (.aload_n 0, 1) := by decide +kernel
theorem dX12_send_33 : decode mX12_send.2.1 33 = .ok (.getfield 37, 3) := by decide +kernel
theorem dX12_send_36 : decode mX12_send.2.1 36 = .ok (.bipush 6, 2) := by decide +kernel
theorem dX12_send_38 : decode mX12_send.2.1 38 = .ok (.iaload, 1) := by decide +kernel
theorem dX12_send_39 : decode mX12_send.2.1 39 = .ok (.if_icmp .le 5, 3) := by decide +kernel
theorem dX12_send_42 : decode mX12_send.2.1 42 = .ok (.iconst (-1), 1) := by decide +kernel
theorem dX12_send_43 : decode mX12_send.2.1 43 = .ok (.ireturn, 1) := by decide +kernel
theorem dX12_send_44 : decode mX12_send.2.1 44 = .ok (.aload_n 0, 1) := by decide +kernel
theorem dX12_send_45 : decode mX12_send.2.1 45 = .ok (.invokevirtual 149, 3) := by decide +kernel
theorem dX12_send_48 : decode mX12_send.2.1 48 = .ok (.aload_n 0, 1) := by decide +kernel
theorem dX12_send_49 : decode mX12_send.2.1 49 = .ok (.getfield 37, 3) := by decide +kernel
theorem dX12_send_52 : decode mX12_send.2.1 52 = .ok (.bipush 10, 2) := by decide +kernel
theorem dX12_send_54 : decode mX12_send.2.1 54 = .ok (.iload_n 1, 1) := by decide +kernel
theorem dX12_send_55 : decode mX12_send.2.1 55 = .ok (.aload_n 0, 1) := by decide +kernel
theorem dX12_send_56 : decode mX12_send.2.1 56 = .ok (.sipush 3390, 3) := by decide +kernel
theorem dX12_send_59 : decode mX12_send.2.1 59 = .ok (.invokevirtual 229, 3) := by decide +kernel
theorem dX12_send_62 : decode mX12_send.2.1 62 = .ok (.ixor, 1) := by decide +kernel
theorem dX12_send_63 : decode mX12_send.2.1 63 = .ok (.iastore, 1) := by decide +kernel
theorem dX12_send_64 : decode mX12_send.2.1 64 = .ok (.aload_n 0, 1) := by decide +kernel
theorem dX12_send_65 : decode mX12_send.2.1 65 = .ok (.getfield 37, 3) := by decide +kernel
theorem dX12_send_68 : decode mX12_send.2.1 68 = .ok (.bipush 11, 2) := by decide +kernel
theorem dX12_send_70 : decode mX12_send.2.1 70 = .ok (.aload_n 0, 1) := by decide +kernel
theorem dX12_send_71 : decode mX12_send.2.1 71 = .ok (.getfield 37, 3) := by decide +kernel
theorem dX12_send_74 : decode mX12_send.2.1 74 = .ok (.bipush 10, 2) := by decide +kernel
theorem dX12_send_76 : decode mX12_send.2.1 76 = .ok (.iaload, 1) := by decide +kernel
theorem dX12_send_77 : decode mX12_send.2.1 77 = .ok (.aload_n 0, 1) := by decide +kernel
theorem dX12_send_78 : decode mX12_send.2.1 78 = .ok (.sipush 3646, 3) := by decide +kernel
theorem dX12_send_81 : decode mX12_send.2.1 81 = .ok (.invokevirtual 229, 3) := by decide +kernel
theorem dX12_send_84 : decode mX12_send.2.1 84 = .ok (.ixor, 1) := by decide +kernel
theorem dX12_send_85 : decode mX12_send.2.1 85 = .ok (.iastore, 1) := by decide +kernel
theorem dX12_send_86 : decode mX12_send.2.1 86 = .ok (.aload_n 0, 1) := by decide +kernel
theorem dX12_send_87 : decode mX12_send.2.1 87 = .ok (.getfield 37, 3) := by decide +kernel
theorem dX12_send_90 : decode mX12_send.2.1 90 = .ok (.bipush 9, 2) := by decide +kernel
theorem dX12_send_92 : decode mX12_send.2.1 92 = .ok (.dup2, 1) := by decide +kernel
theorem dX12_send_93 : decode mX12_send.2.1 93 = .ok (.iaload, 1) := by decide +kernel
theorem dX12_send_94 : decode mX12_send.2.1 94 = .ok (.bipush 8, 2) := by decide +kernel
theorem dX12_send_96 : decode mX12_send.2.1 96 = .ok (.iadd, 1) := by decide +kernel
theorem dX12_send_97 : decode mX12_send.2.1 97 = .ok (.iastore, 1) := by decide +kernel
theorem dX12_send_98 : decode mX12_send.2.1 98 = .ok (.aload_n 0, 1) := by decide +kernel
theorem dX12_send_99 : decode mX12_send.2.1 99 = .ok (.getfield 37, 3) := by decide +kernel
theorem dX12_send_102 : decode mX12_send.2.1 102 = .ok (.bipush 10, 2) := by decide +kernel
theorem dX12_send_104 : decode mX12_send.2.1 104 = .ok (.iaload, 1) := by decide +kernel
theorem dX12_send_105 : decode mX12_send.2.1 105 = .ok (.ireturn, 1) := by decide +kernel
theorem dX12_sends_0 : decode mX12_sends.2.1 0 = .ok (.aload_n 0, 1) := by decide +kernel
theorem dX12_sends_1 : decode mX12_sends.2.1 1 = .ok (.iconst 2, 1) := by decide +kernel
theorem dX12_sends_2 : decode mX12_sends.2.1 2 = .ok (.invokevirtual 135, 3) := by decide +kernel
theorem dX12_sends_5 : decode mX12_sends.2.1 5 = .ok (.istore_n 2, 1) := by decide +kernel
theorem dX12_sends_6 : decode mX12_sends.2.1 6 = .ok (.aload_n 0, 1) := by decide +kernel
theorem dX12_sends_7 : decode mX12_sends.2.1 7 = .ok (.iconst 2, 1) := by decide +kernel
theorem dX12_sends_8 : decode mX12_sends.2.1 8 = .ok (.invokevirtual 135, 3) := by decide +kernel
theorem dX12_sends_11 : decode mX12_sends.2.1 11 = .ok (.istore_n 3, 1) := by decide +kernel
theorem dX12_sends_12 : decode mX12_sends.2.1 12 = .ok (.iload_n 2, 1) := by decide +kernel
theorem dX12_sends_13 : decode mX12_sends.2.1 13 = .ok (.istore 4, 2) := by decide +kernel
theorem dX12_sends_15 : decode mX12_sends.2.1 15 = .ok (.iload_n 3, 1) := by decide +kernel
theorem dX12_sends_16 : decode mX12_sends.2.1 16 = .ok (.istore 5, 2) := by decide +kernel
theorem dX12_sends_18 : decode mX12_sends.2.1 18 = .ok (.aload_n 0, 1) := by decide +kernel
theorem dX12_sends_19 : decode mX12_sends.2.1 19 = .ok (.bipush 100, 2) := by decide +kernel
theorem dX12_sends_21 : decode mX12_sends.2.1 21 = .ok (.invokevirtual 135, 3) := by decide +kernel
theorem dX12_sends_24 : decode mX12_sends.2.1 24 = .ok (.aload_n 0, 1) := by decide +kernel
theorem dX12_sends_25 : decode mX12_sends.2.1 25 = .ok (.getfield 27, 3) := by decide +kernel
theorem dX12_sends_28 : decode mX12_sends.2.1 28 = .ok (.iconst 3, 1) := by decide +kernel
theorem dX12_sends_29 : decode mX12_sends.2.1 29 = .ok (.iaload, 1) := by decide +kernel
theorem dX12_sends_30 : decode mX12_sends.2.1 30 = .ok (.if_icmp .ge 7, 3) := by decide +kernel
theorem dX12_sends_33 : decode mX12_sends.2.1 33 = .ok (.iconst 1, 1) := by decide +kernel
theorem dX12_sends_34 : decode mX12_sends.2.1 34 = .ok (.goto 4, 3) := by decide +kernel
theorem dX12_sends_37 : decode mX12_sends.2.1 37 = .ok (.iconst 0, 1) := by decide +kernel
theorem dX12_sends_38 : decode mX12_sends.2.1 38 = .ok (.istore 6, 2) := by decide +kernel
theorem dX12_sends_40 : decode mX12_sends.2.1 40 = .ok (.iconst 0, 1) := by decide +kernel
theorem dX12_sends_41 : decode mX12_sends.2.1 41 = .ok (.istore 7, 2) := by decide +kernel
theorem dX12_sends_43 : decode mX12_sends.2.1 43 = .ok (.iload 6, 2) := by decide +kernel
theorem dX12_sends_45 : decode mX12_sends.2.1 45 = .ok (.iconst 1, 1) := by decide +kernel
theorem dX12_sends_46 : decode mX12_sends.2.1 46 = .ok (.if_icmp .ne 27, 3) := by decide +kernel
theorem dX12_sends_49 : decode mX12_sends.2.1 49 = .ok (.aload_n 0, 1) := by decide +kernel
theorem dX12_sends_50 : decode mX12_sends.2.1 50 = .ok (.iconst 2, 1) := by decide +kernel
theorem dX12_sends_51 : decode mX12_sends.2.1 51 = .ok (.invokevirtual 135, 3) := by decide +kernel
theorem dX12_sends_54 : decode mX12_sends.2.1 54 = .ok (.istore 7, 2) := by decide +kernel
theorem dX12_sends_56 : decode mX12_sends.2.1 56 = .ok (.iload 7, 2) := by decide +kernel
theorem dX12_sends_58 : decode mX12_sends.2.1 58 = .ok (.iload_n 3, 1) := by decide +kernel
theorem dX12_sends_59 : decode mX12_sends.2.1 59 = .ok (.if_icmp .eq 10, 3) := by decide +kernel
theorem dX12_sends_62 : decode mX12_sends.2.1 62 = .ok (.aload_n 0, 1) := by decide +kernel
theorem dX12_sends_63 : decode mX12_sends.2.1 63 = .ok (.iconst 2, 1) := by decide +kernel
theorem dX12_sends_64 : decode mX12_sends.2.1 64 = .ok (.invokevirtual 135, 3) := by decide +kernel
theorem dX12_sends_67 : decode mX12_sends.2.1 67 = .ok (.istore 4, 2) := by decide +kernel
theorem dX12_sends_69 : decode mX12_sends.2.1 69 = .ok (.iload 7, 2) := by decide +kernel
theorem dX12_sends_71 : decode mX12_sends.2.1 71 = .ok (.istore 5, 2) := by decide +kernel
theorem dX12_sends_73 : decode mX12_sends.2.1 73 = .ok (.aload_n 0, 1) := by decide +kernel
theorem dX12_sends_74 : decode mX12_sends.2.1 74 = .ok (.iconst 2, 1) := by decide +kernel
theorem dX12_sends_75 : decode mX12_sends.2.1 75 = .ok (.invokevirtual 135, 3) := by decide +kernel
theorem dX12_sends_78 : decode mX12_sends.2.1 78 = .ok (.istore 8, 2) := by decide +kernel
theorem dX12_sends_80 : decode mX12_sends.2.1 80 = .ok (.iload 8, 2) := by decide +kernel
theorem dX12_sends_82 : decode mX12_sends.2.1 82 = .ok (.iload 5, 2) := by decide +kernel
theorem dX12_sends_84 : decode mX12_sends.2.1 84 = .ok (.if_icmp .eq 11, 3) := by decide +kernel
theorem dX12_sends_87 : decode mX12_sends.2.1 87 = .ok (.aload_n 0, 1) := by decide +kernel
theorem dX12_sends_88 : decode mX12_sends.2.1 88 = .ok (.iconst 2, 1) := by decide +kernel
theorem dX12_sends_89 : decode mX12_sends.2.1 89 = .ok (.invokevirtual 135, 3) := by decide +kernel
theorem dX12_sends_92 : decode mX12_sends.2.1 92 = .ok (.goto 5, 3) := by decide +kernel
theorem dX12_sends_95 : decode mX12_sends.2.1 95 = .ok (.iload 4, 2) := by decide +kernel
theorem dX12_sends_97 : decode mX12_sends.2.1 97 = .ok (.istore 9, 2) := by decide +kernel
theorem dX12_sends_99 : decode mX12_sends.2.1 99 = .ok (.aload_n 0, 1) := by decide +kernel
theorem dX12_sends_100 : decode mX12_sends.2.1 100 = .ok (.sipush 1000, 3) := by decide +kernel
theorem dX12_sends_103 : decode mX12_sends.2.1 103 = .ok (.invokevirtual 135, 3) := by decide +kernel
theorem dX12_sends_106 : decode mX12_sends.2.1 106 = .ok (.aload_n 0, 1) := by decide +kernel
theorem dX12_sends_107 : decode mX12_sends.2.1 107 = .ok (.getfield 27, 3) := by decide +kernel
theorem dX12_sends_110 : decode mX12_sends.2.1 110 = .ok (.iconst 2, 1) := by decide +kernel
theorem dX12_sends_111 : decode mX12_sends.2.1 111 = .ok (.iaload, 1) := by decide +kernel
theorem dX12_sends_112 : decode mX12_sends.2.1 112 = .ok (.if_icmp .ge 9, 3) := by decide +kernel
theorem dX12_sends_115 : decode mX12_sends.2.1 115 = .ok (.iconst 1, 1) := by decide +kernel
theorem dX12_sends_116 : decode mX12_sends.2.1 116 = .ok (.iload 9, 2) := by decide +kernel
theorem dX12_sends_118 : decode mX12_sends.2.1 118 = .ok (.isub, 1) := by decide +kernel
theorem dX12_sends_119 : decode mX12_sends.2.1 119 = .ok (.istore 9, 2) := by decide +kernel
theorem dX12_sends_121 : decode mX12_sends.2.1 121 = .ok (.aload_n 0, 1) := by decide +kernel
theorem dX12_sends_122 : decode mX12_sends.2.1 122 = .ok (.getfield 37, 3) := by decide +kernel
theorem dX12_sends_125 : decode mX12_sends.2.1 125 = .ok (.bipush 20, 2) := by decide +kernel
theorem dX12_sends_127 : decode mX12_sends.2.1 127 = .ok (.iload_n 1, 1) := by decide +kernel
theorem dX12_sends_128 : decode mX12_sends.2.1 128 = .ok (.iadd, 1) := by decide +kernel
theorem dX12_sends_129 : decode mX12_sends.2.1 129 = .ok (.iload_n 2, 1) := by decide +kernel
theorem dX12_sends_130 : decode mX12_sends.2.1 130 = .ok (.iload_n 3, 1) := by decide +kernel
theorem dX12_sends_131 : decode mX12_sends.2.1 131 = .ok (.iconst 1, 1) := by decide +kernel
theorem dX12_sends_132 : decode mX12_sends.2.1 132 = .ok (.ishl, 1) := by decide +kernel
theorem dX12_sends_133 : decode mX12_sends.2.1 133 = .ok (.ior, 1) := by decide +kernel
theorem dX12_sends_134 : decode mX12_sends.2.1 134 = .ok (.iload 8, 2) := by decide +kernel
theorem dX12_sends_136 : decode mX12_sends.2.1 136 = .ok (.iconst 2, 1) := by decide +kernel
theorem dX12_sends_137 : decode mX12_sends.2.1 137 = .ok (.ishl, 1) := by decide +kernel
theorem dX12_sends_138 : decode mX12_sends.2.1 138 = .ok (.ior, 1) := by decide +kernel
theorem dX12_sends_139 : decode mX12_sends.2.1 139 = .ok (.iload 9, 2) := by decide +kernel
theorem dX12_sends_141 : decode mX12_sends.2.1 141 = .ok (.iconst 3, 1) := by decide +kernel
theorem dX12_sends_142 : decode mX12_sends.2.1 142 = .ok (.ishl, 1) := by decide +kernel
theorem dX12_sends_143 : decode mX12_sends.2.1 143 = .ok (.ior, 1) := by decide +kernel
theorem dX12_sends_144 : decode mX12_sends.2.1 144 = .ok (.iload 6, 2) := by decide +kernel
theorem dX12_sends_146 : decode mX12_sends.2.1 146 = .ok (.iconst 4, 1) := by decide +kernel
theorem dX12_sends_147 : decode mX12_sends.2.1 147 = .ok (.ishl, 1) := by decide +kernel
theorem dX12_sends_148 : decode mX12_sends.2.1 148 = .ok (.ior, 1) := by decide +kernel
theorem dX12_sends_149 : decode mX12_sends.2.1 149 = .ok (.iload 7, 2) := by decide +kernel
theorem dX12_sends_151 : decode mX12_sends.2.1 151 = .ok (.iconst 5, 1) := by decide +kernel
theorem dX12_sends_152 : decode mX12_sends.2.1 152 = .ok (.ishl, 1) := by decide +kernel
theorem dX12_sends_153 : decode mX12_sends.2.1 153 = .ok (.ior, 1) := by decide +kernel
theorem dX12_sends_154 : decode mX12_sends.2.1 154 = .ok (.iastore, 1) := by decide +kernel
theorem dX12_sends_155 : decode mX12_sends.2.1 155 = .ok (.return_, 1) := by decide +kernel
theorem dX12_setMany_0 : decode mX12_setMany.2.1 0 = .ok (.iconst 0, 1) := by decide +kernel
theorem dX12_setMany_1 : decode mX12_setMany.2.1 1 = .ok (.istore_n 1, 1) := by decide +kernel
theorem dX12_setMany_2 : decode mX12_setMany.2.1 2 = .ok (.iconst 0, 1) := by decide +kernel
theorem dX12_setMany_3 : decode mX12_setMany.2.1 3 = .ok (.istore_n 2, 1) := by decide +kernel
theorem dX12_setMany_4 : decode mX12_setMany.2.1 4 = .ok (.iload_n 2, 1) := by decide +kernel
theorem dX12_setMany_5 : decode mX12_setMany.2.1 5 = .ok (.aload_n 0, 1) := by decide +kernel
theorem dX12_setMany_6 : decode mX12_setMany.2.1 6 = .ok (.getfield 37, 3) := by decide +kernel
theorem dX12_setMany_9 : decode mX12_setMany.2.1 9 = .ok (.iconst 1, 1) := by decide +kernel
theorem dX12_setMany_10 : decode mX12_setMany.2.1 10 = .ok (.iaload, 1) := by decide +kernel
theorem dX12_setMany_11 : decode mX12_setMany.2.1 11 = .ok (.if_icmp .ge 25, 3) := by decide +kernel
theorem dX12_setMany_14 : decode mX12_setMany.2.1 14 = .ok (.iload_n 1, 1) := by decide +kernel
theorem dX12_setMany_15 : decode mX12_setMany.2.1 15 = .ok (.aload_n 0, 1) := by decide +kernel
theorem dX12_setMany_16 : decode mX12_setMany.2.1 16 = .ok (.iload_n 2, 1) := by decide +kernel
theorem dX12_setMany_17 : decode mX12_setMany.2.1 17 = .ok (.invokevirtual 260, 3) := by decide +kernel
theorem dX12_setMany_20 : decode mX12_setMany.2.1 20 = .ok (.ifCond .eq 7, 3) := by decide +kernel
theorem dX12_setMany_23 : decode mX12_setMany.2.1 23 = .ok (.iconst 1, 1) := by decide +kernel
theorem dX12_setMany_24 : decode mX12_setMany.2.1 24 = .ok (.goto 4, 3) := by decide +kernel
theorem dX12_setMany_27 : decode mX12_setMany.2.1 27 = .ok (.iconst 0, 1) := by decide +kernel
theorem dX12_setMany_28 : decode mX12_setMany.2.1 28 = .ok (.iadd, 1) := by decide +kernel
theorem dX12_setMany_29 : decode mX12_setMany.2.1 29 = .ok (.istore_n 1, 1) := by decide +kernel
theorem dX12_setMany_30 : decode mX12_setMany.2.1 30 = .ok (.iinc 2 1, 3) := by decide +kernel
theorem dX12_setMany_33 : decode mX12_setMany.2.1 33 = .ok (.goto (-29), 3) := by decide +kernel
theorem dX12_setMany_36 : decode mX12_setMany.2.1 36 = .ok (.iload_n 1, 1) := by decide +kernel
theorem dX12_setMany_37 : decode mX12_setMany.2.1 37 = .ok (.ireturn, 1) := by decide +kernel
theorem dX12_setsPlain_0 : decode mX12_setsPlain.2.1 0 = .ok (.iconst 0, 1) := by decide +kernel
theorem dX12_setsPlain_1 : decode mX12_setsPlain.2.1 1 = .ok (.istore_n 1, 1) := by decide +kernel
theorem dX12_setsPlain_2 : decode mX12_setsPlain.2.1 2 = .ok (.iload_n 1, 1) := by decide +kernel
theorem dX12_setsPlain_3 : decode mX12_setsPlain.2.1 3 = .ok (.bipush 9, 2) := by decide +kernel
theorem dX12_setsPlain_5 : decode mX12_setsPlain.2.1 5 = .ok (.if_icmp .ge 28, 3) := by decide +kernel
theorem dX12_setsPlain_8 : decode mX12_setsPlain.2.1 8 = .ok (.aload_n 0, 1) := by decide +kernel
theorem dX12_setsPlain_9 : decode mX12_setsPlain.2.1 9 = .ok (.getfield 30, 3) := by decide +kernel
theorem dX12_setsPlain_12 : decode mX12_setsPlain.2.1 12 = .ok (.iload_n 1, 1) := by decide +kernel
theorem dX12_setsPlain_13 : decode mX12_setsPlain.2.1 13 = .ok (.aload_n 0, 1) := by decide +kernel
theorem dX12_setsPlain_14 : decode mX12_setsPlain.2.1 14 = .ok (.getfield 24, 3) := by decide +kernel
theorem dX12_setsPlain_17 : decode mX12_setsPlain.2.1 17 = .ok (.iload_n 1, 1) := by decide +kernel
theorem dX12_setsPlain_18 : decode mX12_setsPlain.2.1 18 = .ok (.iaload, 1) := by decide +kernel
theorem dX12_setsPlain_19 : decode mX12_setsPlain.2.1 19 = .ok (.iastore, 1) := by decide +kernel
theorem dX12_setsPlain_20 : decode mX12_setsPlain.2.1 20 = .ok (.aload_n 0, 1) := by decide +kernel
theorem dX12_setsPlain_21 : decode mX12_setsPlain.2.1 21 = .ok (.getfield 33, 3) := by decide +kernel
theorem dX12_setsPlain_24 : decode mX12_setsPlain.2.1 24 = .ok (.iload_n 1, 1) := by decide +kernel
theorem dX12_setsPlain_25 : decode mX12_setsPlain.2.1 25 = .ok (.iconst 0, 1) := by decide +kernel
theorem dX12_setsPlain_26 : decode mX12_setsPlain.2.1 26 = .ok (.bastore, 1) := by decide +kernel
theorem dX12_setsPlain_27 : decode mX12_setsPlain.2.1 27 = .ok (.iinc 1 1, 3) := by decide +kernel
theorem dX12_setsPlain_30 : decode mX12_setsPlain.2.1 30 = .ok (.goto (-28), 3) := by decide +kernel
theorem dX12_setsPlain_33 : decode mX12_setsPlain.2.1 33 = .ok (.return_, 1) := by decide +kernel
theorem dX12_setting_0 : decode mX12_setting.2.1 0 = .ok (.iload_n 1, 1) := by decide +kernel
theorem dX12_setting_1 : decode mX12_setting.2.1 1 = .ok (.i2l, 1) := by decide +kernel
theorem dX12_setting_2 : decode mX12_setting.2.1 2 = .ok (.lconst 0, 1) := by decide +kernel
theorem dX12_setting_3 : decode mX12_setting.2.1 3 = .ok (.ldc2_w 121, 3) := by decide +kernel
theorem dX12_setting_6 : decode mX12_setting.2.1 6 = .ok (.invokestatic 76, 3) := by decide +kernel
theorem dX12_setting_9 : decode mX12_setting.2.1 9 = .ok (.ifCond .eq 12, 3) := by decide +kernel
theorem dX12_setting_12 : decode mX12_setting.2.1 12 = .ok (.aload_n 0, 1) := by decide +kernel
theorem dX12_setting_13 : decode mX12_setting.2.1 13 = .ok (.getfield 27, 3) := by decide +kernel
theorem dX12_setting_16 : decode mX12_setting.2.1 16 = .ok (.iload_n 1, 1) := by decide +kernel
theorem dX12_setting_17 : decode mX12_setting.2.1 17 = .ok (.iaload, 1) := by decide +kernel
theorem dX12_setting_18 : decode mX12_setting.2.1 18 = .ok (.goto 4, 3) := by decide +kernel
theorem dX12_setting_21 : decode mX12_setting.2.1 21 = .ok (.iconst (-1), 1) := by decide +kernel
theorem dX12_setting_22 : decode mX12_setting.2.1 22 = .ok (.ireturn, 1) := by decide +kernel
theorem dX12_shorten_0 : decode mX12_shorten.2.1 0 = .ok (.aload_n 0, 1) := by decide +kernel
theorem dX12_shorten_1 : decode mX12_shorten.2.1 1 = .ok (.getfield 37, 3) := by decide +kernel
theorem dX12_shorten_4 : decode mX12_shorten.2.1 4 = .ok (.iconst 0, 1) := by decide +kernel
theorem dX12_shorten_5 : decode mX12_shorten.2.1 5 = .ok (.iaload, 1) := by decide +kernel
theorem dX12_shorten_6 : decode mX12_shorten.2.1 6 = .ok (.iconst 4, 1) := by decide +kernel
theorem dX12_shorten_7 : decode mX12_shorten.2.1 7 = .ok (.if_icmp .eq 5, 3) := by decide +kernel
theorem dX12_shorten_10 : decode mX12_shorten.2.1 10 = .ok (.iconst (-1), 1) := by decide +kernel
theorem dX12_shorten_11 : decode mX12_shorten.2.1 11 = .ok (.ireturn, 1) := by decide +kernel
theorem dX12_shorten_12 : decode mX12_shorten.2.1 12 = .ok (.aload_n 0, 1) := by decide +kernel
theorem dX12_shorten_13 : decode mX12_shorten.2.1 13 = .ok (.invokevirtual 149, 3) := by decide +kernel
theorem dX12_shorten_16 : decode mX12_shorten.2.1 16 = .ok (.aload_n 0, 1) := by decide +kernel
theorem dX12_shorten_17 : decode mX12_shorten.2.1 17 = .ok (.invokevirtual 224, 3) := by decide +kernel
theorem dX12_shorten_20 : decode mX12_shorten.2.1 20 = .ok (.ireturn, 1) := by decide +kernel
theorem dX12_shortens_0 : decode mX12_shortens.2.1 0 = .ok (.aload_n 0, 1) := by decide +kernel
theorem dX12_shortens_1 : decode mX12_shortens.2.1 1 = .ok (.getfield 37, 3) := by decide +kernel
theorem dX12_shortens_4 : decode mX12_shortens.2.1 4 = .ok (.iconst 1, 1) := by decide +kernel
theorem dX12_shortens_5 : decode mX12_shortens.2.1 5 = .ok (.iaload, 1) := by decide +kernel
theorem dX12_shortens_6 : decode mX12_shortens.2.1 6 = .ok (.aload_n 0, 1) := by decide +kernel
theorem dX12_shortens_7 : decode mX12_shortens.2.1 7 = .ok (.getfield 37, 3) := by decide +kernel
theorem dX12_shortens_10 : decode mX12_shortens.2.1 10 = .ok (.iconst 3, 1) := by decide +kernel
theorem dX12_shortens_11 : decode mX12_shortens.2.1 11 = .ok (.iaload, 1) := by decide +kernel
theorem dX12_shortens_12 : decode mX12_shortens.2.1 12 = .ok (.isub, 1) := by decide +kernel
theorem dX12_shortens_13 : decode mX12_shortens.2.1 13 = .ok (.iconst 2, 1) := by decide +kernel
theorem dX12_shortens_14 : decode mX12_shortens.2.1 14 = .ok (.aload_n 0, 1) := by decide +kernel
theorem dX12_shortens_15 : decode mX12_shortens.2.1 15 = .ok (.getfield 37, 3) := by decide +kernel
theorem dX12_shortens_18 : decode mX12_shortens.2.1 18 = .ok (.iconst 5, 1) := by decide +kernel
theorem dX12_shortens_19 : decode mX12_shortens.2.1 19 = .ok (.iaload, 1) := by decide +kernel
theorem dX12_shortens_20 : decode mX12_shortens.2.1 20 = .ok (.imul, 1) := by decide +kernel
theorem dX12_shortens_21 : decode mX12_shortens.2.1 21 = .ok (.aload_n 0, 1) := by decide +kernel
theorem dX12_shortens_22 : decode mX12_shortens.2.1 22 = .ok (.getfield 37, 3) := by decide +kernel
theorem dX12_shortens_25 : decode mX12_shortens.2.1 25 = .ok (.iconst 1, 1) := by decide +kernel
theorem dX12_shortens_26 : decode mX12_shortens.2.1 26 = .ok (.iaload, 1) := by decide +kernel
theorem dX12_shortens_27 : decode mX12_shortens.2.1 27 = .ok (.imul, 1) := by decide +kernel
theorem dX12_shortens_28 : decode mX12_shortens.2.1 28 = .ok (.sipush 1000, 3) := by decide +kernel
theorem dX12_shortens_31 : decode mX12_shortens.2.1 31 = .ok (.idiv, 1) := by decide +kernel
theorem dX12_shortens_32 : decode mX12_shortens.2.1 32 = .ok (.isub, 1) := by decide +kernel
theorem dX12_shortens_33 : decode mX12_shortens.2.1 33 = .ok (.aload_n 0, 1) := by decide +kernel
theorem dX12_shortens_34 : decode mX12_shortens.2.1 34 = .ok (.getfield 27, 3) := by decide +kernel
theorem dX12_shortens_37 : decode mX12_shortens.2.1 37 = .ok (.bipush 8, 2) := by decide +kernel
theorem dX12_shortens_39 : decode mX12_shortens.2.1 39 = .ok (.iaload, 1) := by decide +kernel
theorem dX12_shortens_40 : decode mX12_shortens.2.1 40 = .ok (.isub, 1) := by decide +kernel
theorem dX12_shortens_41 : decode mX12_shortens.2.1 41 = .ok (.istore_n 1, 1) := by decide +kernel
theorem dX12_shortens_42 : decode mX12_shortens.2.1 42 = .ok (.iload_n 1, 1) := by decide +kernel
theorem dX12_shortens_43 : decode mX12_shortens.2.1 43 = .ok (.iconst 1, 1) := by decide +kernel
theorem dX12_shortens_44 : decode mX12_shortens.2.1 44 = .ok (.if_icmp .ge 13, 3) := by decide +kernel
theorem dX12_shortens_47 : decode mX12_shortens.2.1 47 = .ok (.aload_n 0, 1) := by decide +kernel
theorem dX12_shortens_48 : decode mX12_shortens.2.1 48 = .ok (.getfield 37, 3) := by decide +kernel
theorem dX12_shortens_51 : decode mX12_shortens.2.1 51 = .ok (.iconst 0, 1) := by decide +kernel
theorem dX12_shortens_52 : decode mX12_shortens.2.1 52 = .ok (.bipush 6, 2) := by decide +kernel
theorem dX12_shortens_54 : decode mX12_shortens.2.1 54 = .ok (.iastore, 1) := by decide +kernel
theorem dX12_shortens_55 : decode mX12_shortens.2.1 55 = .ok (.iconst 0, 1) := by decide +kernel
theorem dX12_shortens_56 : decode mX12_shortens.2.1 56 = .ok (.ireturn, 1) := by decide +kernel
theorem dX12_shortens_57 : decode mX12_shortens.2.1 57 = .ok (.aload_n 0, 1) := by decide +kernel
theorem dX12_shortens_58 : decode mX12_shortens.2.1 58 = .ok (.sipush 2870, 3) := by decide +kernel
theorem dX12_shortens_61 : decode mX12_shortens.2.1 61 = .ok (.aload_n 0, 1) := by decide +kernel
theorem dX12_shortens_62 : decode mX12_shortens.2.1 62 = .ok (.getfield 37, 3) := by decide +kernel
theorem dX12_shortens_65 : decode mX12_shortens.2.1 65 = .ok (.iconst 1, 1) := by decide +kernel
theorem dX12_shortens_66 : decode mX12_shortens.2.1 66 = .ok (.iaload, 1) := by decide +kernel
theorem dX12_shortens_67 : decode mX12_shortens.2.1 67 = .ok (.iload_n 1, 1) := by decide +kernel
theorem dX12_shortens_68 : decode mX12_shortens.2.1 68 = .ok (.iadd, 1) := by decide +kernel
theorem dX12_shortens_69 : decode mX12_shortens.2.1 69 = .ok (.iconst 1, 1) := by decide +kernel
theorem dX12_shortens_70 : decode mX12_shortens.2.1 70 = .ok (.isub, 1) := by decide +kernel
theorem dX12_shortens_71 : decode mX12_shortens.2.1 71 = .ok (.invokevirtual 214, 3) := by decide +kernel
theorem dX12_shortens_74 : decode mX12_shortens.2.1 74 = .ok (.iconst 0, 1) := by decide +kernel
theorem dX12_shortens_75 : decode mX12_shortens.2.1 75 = .ok (.istore_n 2, 1) := by decide +kernel
theorem dX12_shortens_76 : decode mX12_shortens.2.1 76 = .ok (.iload_n 2, 1) := by decide +kernel
theorem dX12_shortens_77 : decode mX12_shortens.2.1 77 = .ok (.iload_n 1, 1) := by decide +kernel
theorem dX12_shortens_78 : decode mX12_shortens.2.1 78 = .ok (.if_icmp .ge 51, 3) := by decide +kernel
theorem dX12_shortens_81 : decode mX12_shortens.2.1 81 = .ok (.aload_n 0, 1) := by decide +kernel
theorem dX12_shortens_82 : decode mX12_shortens.2.1 82 = .ok (.getfield 37, 3) := by decide +kernel
theorem dX12_shortens_85 : decode mX12_shortens.2.1 85 = .ok (.sipush 3390, 3) := by decide +kernel
theorem dX12_shortens_88 : decode mX12_shortens.2.1 88 = .ok (.iload_n 2, 1) := by decide +kernel
theorem dX12_shortens_89 : decode mX12_shortens.2.1 89 = .ok (.iadd, 1) := by decide +kernel
theorem dX12_shortens_90 : decode mX12_shortens.2.1 90 = .ok (.aload_n 0, 1) := by decide +kernel
theorem dX12_shortens_91 : decode mX12_shortens.2.1 91 = .ok (.sipush 276, 3) := by decide +kernel
theorem dX12_shortens_94 : decode mX12_shortens.2.1 94 = .ok (.sipush 2870, 3) := by decide +kernel
theorem dX12_shortens_97 : decode mX12_shortens.2.1 97 = .ok (.iload_n 2, 1) := by decide +kernel
theorem dX12_shortens_98 : decode mX12_shortens.2.1 98 = .ok (.invokevirtual 218, 3) := by decide +kernel
theorem dX12_shortens_101 : decode mX12_shortens.2.1 101 = .ok (.iastore, 1) := by decide +kernel
theorem dX12_shortens_102 : decode mX12_shortens.2.1 102 = .ok (.aload_n 0, 1) := by decide +kernel
theorem dX12_shortens_103 : decode mX12_shortens.2.1 103 = .ok (.getfield 37, 3) := by decide +kernel
theorem dX12_shortens_106 : decode mX12_shortens.2.1 106 = .ok (.sipush 3646, 3) := by decide +kernel
theorem dX12_shortens_109 : decode mX12_shortens.2.1 109 = .ok (.iload_n 2, 1) := by decide +kernel
theorem dX12_shortens_110 : decode mX12_shortens.2.1 110 = .ok (.iadd, 1) := by decide +kernel
theorem dX12_shortens_111 : decode mX12_shortens.2.1 111 = .ok (.aload_n 0, 1) := by decide +kernel
theorem dX12_shortens_112 : decode mX12_shortens.2.1 112 = .ok (.sipush 532, 3) := by decide +kernel
theorem dX12_shortens_115 : decode mX12_shortens.2.1 115 = .ok (.sipush 2870, 3) := by decide +kernel
theorem dX12_shortens_118 : decode mX12_shortens.2.1 118 = .ok (.iload_n 2, 1) := by decide +kernel
theorem dX12_shortens_119 : decode mX12_shortens.2.1 119 = .ok (.invokevirtual 218, 3) := by decide +kernel
theorem dX12_shortens_122 : decode mX12_shortens.2.1 122 = .ok (.iastore, 1) := by decide +kernel
theorem dX12_shortens_123 : decode mX12_shortens.2.1 123 = .ok (.iinc 2 1, 3) := by decide +kernel
theorem dX12_shortens_126 : decode mX12_shortens.2.1 126 = .ok (.goto (-50), 3) := by decide +kernel
theorem dX12_shortens_129 : decode mX12_shortens.2.1 129 = .ok (.aload_n 0, 1) := by decide +kernel
theorem dX12_shortens_130 : decode mX12_shortens.2.1 130 = .ok (.getfield 37, 3) := by decide +kernel
theorem dX12_shortens_133 : decode mX12_shortens.2.1 133 = .ok (.bipush 6, 2) := by decide +kernel
theorem dX12_shortens_135 : decode mX12_shortens.2.1 135 = .ok (.iload_n 1, 1) := by decide +kernel
theorem dX12_shortens_136 : decode mX12_shortens.2.1 136 = .ok (.iastore, 1) := by decide +kernel
theorem dX12_shortens_137 : decode mX12_shortens.2.1 137 = .ok (.aload_n 0, 1) := by decide +kernel
theorem dX12_shortens_138 : decode mX12_shortens.2.1 138 = .ok (.getfield 37, 3) := by decide +kernel
theorem dX12_shortens_141 : decode mX12_shortens.2.1 141 = .ok (.iconst 0, 1) := by decide +kernel
theorem dX12_shortens_142 : decode mX12_shortens.2.1 142 = .ok (.iconst 5, 1) := by decide +kernel
theorem dX12_shortens_143 : decode mX12_shortens.2.1 143 = .ok (.iastore, 1) := by decide +kernel
theorem dX12_shortens_144 : decode mX12_shortens.2.1 144 = .ok (.iload_n 1, 1) := by decide +kernel
theorem dX12_shortens_145 : decode mX12_shortens.2.1 145 = .ok (.ireturn, 1) := by decide +kernel
theorem dX12_shuffles_0 : decode mX12_shuffles.2.1 0 = .ok (.sipush 1044, 3) := by decide +kernel
theorem dX12_shuffles_3 : decode mX12_shuffles.2.1 3 = .ok (.sipush 256, 3) := by decide +kernel
theorem dX12_shuffles_6 : decode mX12_shuffles.2.1 6 = .ok (.iload_n 1, 1) := by decide +kernel
theorem dX12_shuffles_7 : decode mX12_shuffles.2.1 7 = .ok (.imul, 1) := by decide +kernel
theorem dX12_shuffles_8 : decode mX12_shuffles.2.1 8 = .ok (.iadd, 1) := by decide +kernel
theorem dX12_shuffles_9 : decode mX12_shuffles.2.1 9 = .ok (.istore_n 2, 1) := by decide +kernel
theorem dX12_shuffles_10 : decode mX12_shuffles.2.1 10 = .ok (.iconst 0, 1) := by decide +kernel
theorem dX12_shuffles_11 : decode mX12_shuffles.2.1 11 = .ok (.istore_n 3, 1) := by decide +kernel
theorem dX12_shuffles_12 : decode mX12_shuffles.2.1 12 = .ok (.iload_n 3, 1) := by decide +kernel
theorem dX12_shuffles_13 : decode mX12_shuffles.2.1 13 = .ok (.aload_n 0, 1) := by decide +kernel
theorem dX12_shuffles_14 : decode mX12_shuffles.2.1 14 = .ok (.getfield 37, 3) := by decide +kernel
theorem dX12_shuffles_17 : decode mX12_shuffles.2.1 17 = .ok (.iconst 1, 1) := by decide +kernel
theorem dX12_shuffles_18 : decode mX12_shuffles.2.1 18 = .ok (.iaload, 1) := by decide +kernel
theorem dX12_shuffles_19 : decode mX12_shuffles.2.1 19 = .ok (.if_icmp .ge 18, 3) := by decide +kernel
theorem dX12_shuffles_22 : decode mX12_shuffles.2.1 22 = .ok (.aload_n 0, 1) := by decide +kernel
theorem dX12_shuffles_23 : decode mX12_shuffles.2.1 23 = .ok (.getfield 37, 3) := by decide +kernel
theorem dX12_shuffles_26 : decode mX12_shuffles.2.1 26 = .ok (.iload_n 2, 1) := by decide +kernel
theorem dX12_shuffles_27 : decode mX12_shuffles.2.1 27 = .ok (.iload_n 3, 1) := by decide +kernel
theorem dX12_shuffles_28 : decode mX12_shuffles.2.1 28 = .ok (.iadd, 1) := by decide +kernel
theorem dX12_shuffles_29 : decode mX12_shuffles.2.1 29 = .ok (.iload_n 3, 1) := by decide +kernel
theorem dX12_shuffles_30 : decode mX12_shuffles.2.1 30 = .ok (.iastore, 1) := by decide +kernel
theorem dX12_shuffles_31 : decode mX12_shuffles.2.1 31 = .ok (.iinc 3 1, 3) := by decide +kernel
theorem dX12_shuffles_34 : decode mX12_shuffles.2.1 34 = .ok (.goto (-22), 3) := by decide +kernel
theorem dX12_shuffles_37 : decode mX12_shuffles.2.1 37 = .ok (.aload_n 0, 1) := by decide +kernel
theorem dX12_shuffles_38 : decode mX12_shuffles.2.1 38 = .ok (.getfield 37, 3) := by decide +kernel
theorem dX12_shuffles_41 : decode mX12_shuffles.2.1 41 = .ok (.iconst 1, 1) := by decide +kernel
theorem dX12_shuffles_42 : decode mX12_shuffles.2.1 42 = .ok (.iaload, 1) := by decide +kernel
theorem dX12_shuffles_43 : decode mX12_shuffles.2.1 43 = .ok (.iconst 1, 1) := by decide +kernel
theorem dX12_shuffles_44 : decode mX12_shuffles.2.1 44 = .ok (.isub, 1) := by decide +kernel
theorem dX12_shuffles_45 : decode mX12_shuffles.2.1 45 = .ok (.istore_n 3, 1) := by decide +kernel
theorem dX12_shuffles_46 : decode mX12_shuffles.2.1 46 = .ok (.iload_n 3, 1) := by decide +kernel
theorem dX12_shuffles_47 : decode mX12_shuffles.2.1 47 = .ok (.ifCond .le 60, 3) := by decide +kernel
theorem dX12_shuffles_50 : decode mX12_shuffles.2.1 50 = .ok (.iload_n 1, 1) := by decide +kernel
theorem dX12_shuffles_51 : decode mX12_shuffles.2.1 51 = .ok (.ifCond .le 56, 3) := by decide +kernel
theorem dX12_shuffles_54 : decode mX12_shuffles.2.1 54 = .ok (.aload_n 0, 1) := by decide +kernel
theorem dX12_shuffles_55 : decode mX12_shuffles.2.1 55 = .ok (.iload_n 3, 1) := by decide +kernel
theorem dX12_shuffles_56 : decode mX12_shuffles.2.1 56 = .ok (.iconst 1, 1) := by decide +kernel
theorem dX12_shuffles_57 : decode mX12_shuffles.2.1 57 = .ok (.iadd, 1) := by decide +kernel
theorem dX12_shuffles_58 : decode mX12_shuffles.2.1 58 = .ok (.invokevirtual 135, 3) := by decide +kernel
theorem dX12_shuffles_61 : decode mX12_shuffles.2.1 61 = .ok (.istore 4, 2) := by decide +kernel
theorem dX12_shuffles_63 : decode mX12_shuffles.2.1 63 = .ok (.aload_n 0, 1) := by decide +kernel
theorem dX12_shuffles_64 : decode mX12_shuffles.2.1 64 = .ok (.getfield 37, 3) := by decide +kernel
theorem dX12_shuffles_67 : decode mX12_shuffles.2.1 67 = .ok (.iload_n 2, 1) := by decide +kernel
theorem dX12_shuffles_68 : decode mX12_shuffles.2.1 68 = .ok (.iload_n 3, 1) := by decide +kernel
theorem dX12_shuffles_69 : decode mX12_shuffles.2.1 69 = .ok (.iadd, 1) := by decide +kernel
theorem dX12_shuffles_70 : decode mX12_shuffles.2.1 70 = .ok (.iaload, 1) := by decide +kernel
theorem dX12_shuffles_71 : decode mX12_shuffles.2.1 71 = .ok (.istore 5, 2) := by decide +kernel
theorem dX12_shuffles_73 : decode mX12_shuffles.2.1 73 = .ok (.aload_n 0, 1) := by decide +kernel
theorem dX12_shuffles_74 : decode mX12_shuffles.2.1 74 = .ok (.getfield 37, 3) := by decide +kernel
theorem dX12_shuffles_77 : decode mX12_shuffles.2.1 77 = .ok (.iload_n 2, 1) := by decide +kernel
theorem dX12_shuffles_78 : decode mX12_shuffles.2.1 78 = .ok (.iload_n 3, 1) := by decide +kernel
theorem dX12_shuffles_79 : decode mX12_shuffles.2.1 79 = .ok (.iadd, 1) := by decide +kernel
theorem dX12_shuffles_80 : decode mX12_shuffles.2.1 80 = .ok (.aload_n 0, 1) := by decide +kernel
theorem dX12_shuffles_81 : decode mX12_shuffles.2.1 81 = .ok (.getfield 37, 3) := by decide +kernel
theorem dX12_shuffles_84 : decode mX12_shuffles.2.1 84 = .ok (.iload_n 2, 1) := by decide +kernel
theorem dX12_shuffles_85 : decode mX12_shuffles.2.1 85 = .ok (.iload 4, 2) := by decide +kernel
theorem dX12_shuffles_87 : decode mX12_shuffles.2.1 87 = .ok (.iadd, 1) := by decide +kernel
theorem dX12_shuffles_88 : decode mX12_shuffles.2.1 88 = .ok (.iaload, 1) := by decide +kernel
theorem dX12_shuffles_89 : decode mX12_shuffles.2.1 89 = .ok (.iastore, 1) := by decide +kernel
theorem dX12_shuffles_90 : decode mX12_shuffles.2.1 90 = .ok (.aload_n 0, 1) := by decide +kernel
theorem dX12_shuffles_91 : decode mX12_shuffles.2.1 91 = .ok (.getfield 37, 3) := by decide +kernel
theorem dX12_shuffles_94 : decode mX12_shuffles.2.1 94 = .ok (.iload_n 2, 1) := by decide +kernel
theorem dX12_shuffles_95 : decode mX12_shuffles.2.1 95 = .ok (.iload 4, 2) := by decide +kernel
theorem dX12_shuffles_97 : decode mX12_shuffles.2.1 97 = .ok (.iadd, 1) := by decide +kernel
theorem dX12_shuffles_98 : decode mX12_shuffles.2.1 98 = .ok (.iload 5, 2) := by decide +kernel
theorem dX12_shuffles_100 : decode mX12_shuffles.2.1 100 = .ok (.iastore, 1) := by decide +kernel
theorem dX12_shuffles_101 : decode mX12_shuffles.2.1 101 = .ok (.iinc 3 (-1), 3) := by decide +kernel
theorem dX12_shuffles_104 : decode mX12_shuffles.2.1 104 = .ok (.goto (-58), 3) := by decide +kernel
theorem dX12_shuffles_107 : decode mX12_shuffles.2.1 107 = .ok (.return_, 1) := by decide +kernel
theorem dX12_signal_0 : decode mX12_signal.2.1 0 = .ok (.iload_n 1, 1) := by decide +kernel
theorem dX12_signal_1 : decode mX12_signal.2.1 1 = .ok (.i2l, 1) := by decide +kernel
theorem dX12_signal_2 : decode mX12_signal.2.1 2 = .ok (.lconst 0, 1) := by decide +kernel
theorem dX12_signal_3 : decode mX12_signal.2.1 3 = .ok (.aload_n 0, 1) := by decide +kernel
theorem dX12_signal_4 : decode mX12_signal.2.1 4 = .ok (.invokevirtual 240, 3) := by decide +kernel
theorem dX12_signal_7 : decode mX12_signal.2.1 7 = .ok (.iconst 1, 1) := by decide +kernel
theorem dX12_signal_8 : decode mX12_signal.2.1 8 = .ok (.isub, 1) := by decide +kernel
theorem dX12_signal_9 : decode mX12_signal.2.1 9 = .ok (.i2l, 1) := by decide +kernel
theorem dX12_signal_10 : decode mX12_signal.2.1 10 = .ok (.invokestatic 76, 3) := by decide +kernel
theorem dX12_signal_13 : decode mX12_signal.2.1 13 = .ok (.ifCond .eq 15, 3) := by decide +kernel
theorem dX12_signal_16 : decode mX12_signal.2.1 16 = .ok (.iload_n 2, 1) := by decide +kernel
theorem dX12_signal_17 : decode mX12_signal.2.1 17 = .ok (.i2l, 1) := by decide +kernel
theorem dX12_signal_18 : decode mX12_signal.2.1 18 = .ok (.lconst 0, 1) := by decide +kernel
theorem dX12_signal_19 : decode mX12_signal.2.1 19 = .ok (.ldc2_w 243, 3) := by decide +kernel
theorem dX12_signal_22 : decode mX12_signal.2.1 22 = .ok (.invokestatic 76, 3) := by decide +kernel
theorem dX12_signal_25 : decode mX12_signal.2.1 25 = .ok (.ifCond .ne 5, 3) := by decide +kernel
theorem dX12_signal_28 : decode mX12_signal.2.1 28 = .ok (.iconst (-1), 1) := by decide +kernel
theorem dX12_signal_29 : decode mX12_signal.2.1 29 = .ok (.ireturn, 1) := by decide +kernel
theorem dX12_signal_30 : decode mX12_signal.2.1 30 = .ok (.iload_n 2, 1) := by decide +kernel
theorem dX12_signal_31 : decode mX12_signal.2.1 31 = .ok (.tableswitch 68 0 4 #[33, 40, 47, 54, 61], 33) := by decide +kernel
theorem dX12_signal_64 : decode mX12_signal.2.1 64 = .ok (.aload_n 0, 1) := by decide +kernel
theorem dX12_signal_65 : decode mX12_signal.2.1 65 = .ok (.iload_n 1, 1) := by decide +kernel
theorem dX12_signal_66 : decode mX12_signal.2.1 66 = .ok (.iconst 0, 1) := by decide +kernel
theorem dX12_signal_67 : decode mX12_signal.2.1 67 = .ok (.invokevirtual 138, 3) := by decide +kernel
theorem dX12_signal_70 : decode mX12_signal.2.1 70 = .ok (.ireturn, 1) := by decide +kernel
theorem dX12_signal_71 : decode mX12_signal.2.1 71 = .ok (.aload_n 0, 1) := by decide +kernel
theorem dX12_signal_72 : decode mX12_signal.2.1 72 = .ok (.iload_n 1, 1) := by decide +kernel
theorem dX12_signal_73 : decode mX12_signal.2.1 73 = .ok (.iconst 1, 1) := by decide +kernel
theorem dX12_signal_74 : decode mX12_signal.2.1 74 = .ok (.invokevirtual 138, 3) := by decide +kernel
theorem dX12_signal_77 : decode mX12_signal.2.1 77 = .ok (.ireturn, 1) := by decide +kernel
theorem dX12_signal_78 : decode mX12_signal.2.1 78 = .ok (.aload_n 0, 1) := by decide +kernel
theorem dX12_signal_79 : decode mX12_signal.2.1 79 = .ok (.iload_n 1, 1) := by decide +kernel
theorem dX12_signal_80 : decode mX12_signal.2.1 80 = .ok (.iconst 2, 1) := by decide +kernel
theorem dX12_signal_81 : decode mX12_signal.2.1 81 = .ok (.invokevirtual 138, 3) := by decide +kernel
theorem dX12_signal_84 : decode mX12_signal.2.1 84 = .ok (.ireturn, 1) := by decide +kernel
theorem dX12_signal_85 : decode mX12_signal.2.1 85 = .ok (.aload_n 0, 1) := by decide +kernel
theorem dX12_signal_86 : decode mX12_signal.2.1 86 = .ok (.iload_n 1, 1) := by decide +kernel
theorem dX12_signal_87 : decode mX12_signal.2.1 87 = .ok (.iconst 3, 1) := by decide +kernel
theorem dX12_signal_88 : decode mX12_signal.2.1 88 = .ok (.invokevirtual 138, 3) := by decide +kernel
theorem dX12_signal_91 : decode mX12_signal.2.1 91 = .ok (.ireturn, 1) := by decide +kernel
theorem dX12_signal_92 : decode mX12_signal.2.1 92 = .ok (.aload_n 0, 1) := by decide +kernel
theorem dX12_signal_93 : decode mX12_signal.2.1 93 = .ok (.iload_n 1, 1) := by decide +kernel
theorem dX12_signal_94 : decode mX12_signal.2.1 94 = .ok (.iconst 4, 1) := by decide +kernel
theorem dX12_signal_95 : decode mX12_signal.2.1 95 = .ok (.invokevirtual 138, 3) := by decide +kernel
theorem dX12_signal_98 : decode mX12_signal.2.1 98 = .ok (.ireturn, 1) := by decide +kernel
theorem dX12_signal_99 : decode mX12_signal.2.1 99 = .ok (.aload_n 0, 1) := by decide +kernel
theorem dX12_signal_100 : decode mX12_signal.2.1 100 = .ok (.iload_n 1, 1) := by decide +kernel
theorem dX12_signal_101 : decode mX12_signal.2.1 101 = .ok (.invokevirtual 146, 3) := by decide +kernel
theorem dX12_signal_104 : decode mX12_signal.2.1 104 = .ok (.ifCond .eq 7, 3) := by decide +kernel
theorem dX12_signal_107 : decode mX12_signal.2.1 107 = .ok (.iconst 1, 1) := by decide +kernel
theorem dX12_signal_108 : decode mX12_signal.2.1 108 = .ok (.goto 4, 3) := by decide +kernel
theorem dX12_signal_111 : decode mX12_signal.2.1 111 = .ok (.iconst 0, 1) := by decide +kernel
theorem dX12_signal_112 : decode mX12_signal.2.1 112 = .ok (.ireturn, 1) := by decide +kernel
theorem dX12_signalMany_0 : decode mX12_signalMany.2.1 0 = .ok (.aload_n 0, 1) := by decide +kernel
theorem dX12_signalMany_1 : decode mX12_signalMany.2.1 1 = .ok (.getfield 37, 3) := by decide +kernel
theorem dX12_signalMany_4 : decode mX12_signalMany.2.1 4 = .ok (.iconst 0, 1) := by decide +kernel
theorem dX12_signalMany_5 : decode mX12_signalMany.2.1 5 = .ok (.iaload, 1) := by decide +kernel
theorem dX12_signalMany_6 : decode mX12_signalMany.2.1 6 = .ok (.ifCond .ne 7, 3) := by decide +kernel
theorem dX12_signalMany_9 : decode mX12_signalMany.2.1 9 = .ok (.iconst 0, 1) := by decide +kernel
theorem dX12_signalMany_10 : decode mX12_signalMany.2.1 10 = .ok (.goto 9, 3) := by decide +kernel
theorem dX12_signalMany_13 : decode mX12_signalMany.2.1 13 = .ok (.aload_n 0, 1) := by decide +kernel
theorem dX12_signalMany_14 : decode mX12_signalMany.2.1 14 = .ok (.getfield 27, 3) := by decide +kernel
theorem dX12_signalMany_17 : decode mX12_signalMany.2.1 17 = .ok (.iconst 0, 1) := by decide +kernel
theorem dX12_signalMany_18 : decode mX12_signalMany.2.1 18 = .ok (.iaload, 1) := by decide +kernel
theorem dX12_signalMany_19 : decode mX12_signalMany.2.1 19 = .ok (.ireturn, 1) := by decide +kernel
theorem dX12_slip_0 : decode mX12_slip.2.1 0 = .ok (.aload_n 0, 1) := by decide +kernel
theorem dX12_slip_1 : decode mX12_slip.2.1 1 = .ok (.iload_n 1, 1) := by decide +kernel
theorem dX12_slip_2 : decode mX12_slip.2.1 2 = .ok (.invokevirtual 232, 3) := by decide +kernel
theorem dX12_slip_5 : decode mX12_slip.2.1 5 = .ok (.ifCond .eq 20, 3) := by decide +kernel
theorem dX12_slip_8 : decode mX12_slip.2.1 8 = .ok (.aload_n 0, 1) := by decide +kernel
theorem dX12_slip_9 : decode mX12_slip.2.1 9 = .ok (.getfield 37, 3) := by decide +kernel
theorem dX12_slip_12 : decode mX12_slip.2.1 12 = .ok (.iconst 0, 1) := by decide +kernel
theorem dX12_slip_13 : decode mX12_slip.2.1 13 = .ok (.iaload, 1) := by decide +kernel
theorem dX12_slip_14 : decode mX12_slip.2.1 14 = .ok (.i2l, 1) := by decide +kernel
theorem dX12_slip_15 : decode mX12_slip.2.1 15 = .ok (.lconst 1, 1) := by decide +kernel
theorem dX12_slip_16 : decode mX12_slip.2.1 16 = .ok (.ldc2_w 235, 3) := by decide +kernel
theorem dX12_slip_19 : decode mX12_slip.2.1 19 = .ok (.invokestatic 76, 3) := by decide +kernel
theorem dX12_slip_22 : decode mX12_slip.2.1 22 = .ok (.ifCond .ne 5, 3) := by decide +kernel
theorem dX12_slip_25 : decode mX12_slip.2.1 25 = .ok (.iconst (-1), 1) := by decide +kernel
theorem dX12_slip_26 : decode mX12_slip.2.1 26 = .ok (.ireturn, 1) := by decide +kernel
theorem dX12_slip_27 : decode mX12_slip.2.1 27 = .ok (.aload_n 0, 1) := by decide +kernel
theorem dX12_slip_28 : decode mX12_slip.2.1 28 = .ok (.invokevirtual 149, 3) := by decide +kernel
theorem dX12_slip_31 : decode mX12_slip.2.1 31 = .ok (.aload_n 0, 1) := by decide +kernel
theorem dX12_slip_32 : decode mX12_slip.2.1 32 = .ok (.getfield 37, 3) := by decide +kernel
theorem dX12_slip_35 : decode mX12_slip.2.1 35 = .ok (.sipush 532, 3) := by decide +kernel
theorem dX12_slip_38 : decode mX12_slip.2.1 38 = .ok (.iload_n 1, 1) := by decide +kernel
theorem dX12_slip_39 : decode mX12_slip.2.1 39 = .ok (.iadd, 1) := by decide +kernel
theorem dX12_slip_40 : decode mX12_slip.2.1 40 = .ok (.iconst 1, 1) := by decide +kernel
theorem dX12_slip_41 : decode mX12_slip.2.1 41 = .ok (.aload_n 0, 1) := by decide +kernel
theorem dX12_slip_42 : decode mX12_slip.2.1 42 = .ok (.getfield 37, 3) := by decide +kernel
theorem dX12_slip_45 : decode mX12_slip.2.1 45 = .ok (.sipush 532, 3) := by decide +kernel
theorem dX12_slip_48 : decode mX12_slip.2.1 48 = .ok (.iload_n 1, 1) := by decide +kernel
theorem dX12_slip_49 : decode mX12_slip.2.1 49 = .ok (.iadd, 1) := by decide +kernel
theorem dX12_slip_50 : decode mX12_slip.2.1 50 = .ok (.iaload, 1) := by decide +kernel
theorem dX12_slip_51 : decode mX12_slip.2.1 51 = .ok (.isub, 1) := by decide +kernel
theorem dX12_slip_52 : decode mX12_slip.2.1 52 = .ok (.iastore, 1) := by decide +kernel
theorem dX12_slip_53 : decode mX12_slip.2.1 53 = .ok (.aload_n 0, 1) := by decide +kernel
theorem dX12_slip_54 : decode mX12_slip.2.1 54 = .ok (.invokevirtual 237, 3) := by decide +kernel
theorem dX12_slip_57 : decode mX12_slip.2.1 57 = .ok (.ireturn, 1) := by decide +kernel
theorem dX12_spied_0 : decode mX12_spied.2.1 0 = .ok (.iload_n 1, 1) := by decide +kernel
theorem dX12_spied_1 : decode mX12_spied.2.1 1 = .ok (.iconst (-1), 1) := by decide +kernel
theorem dX12_spied_2 : decode mX12_spied.2.1 2 = .ok (.if_icmp .eq 29, 3) := by decide +kernel
theorem dX12_spied_5 : decode mX12_spied.2.1 5 = .ok (.aload_n 0, 1) := by decide +kernel
theorem dX12_spied_6 : decode mX12_spied.2.1 6 = .ok (.iload_n 1, 1) := by decide +kernel
theorem dX12_spied_7 : decode mX12_spied.2.1 7 = .ok (.invokevirtual 232, 3) := by decide +kernel
theorem dX12_spied_10 : decode mX12_spied.2.1 10 = .ok (.ifCond .eq 19, 3) := by decide +kernel
theorem dX12_spied_13 : decode mX12_spied.2.1 13 = .ok (.aload_n 0, 1) := by decide +kernel
theorem dX12_spied_14 : decode mX12_spied.2.1 14 = .ok (.iload_n 1, 1) := by decide +kernel
theorem dX12_spied_15 : decode mX12_spied.2.1 15 = .ok (.invokevirtual 298, 3) := by decide +kernel
theorem dX12_spied_18 : decode mX12_spied.2.1 18 = .ok (.ifCond .eq 7, 3) := by decide +kernel
theorem dX12_spied_21 : decode mX12_spied.2.1 21 = .ok (.iconst 1, 1) := by decide +kernel
theorem dX12_spied_22 : decode mX12_spied.2.1 22 = .ok (.goto 8, 3) := by decide +kernel
theorem dX12_spied_25 : decode mX12_spied.2.1 25 = .ok (.iconst 0, 1) := by decide +kernel
theorem dX12_spied_26 : decode mX12_spied.2.1 26 = .ok (.goto 4, 3) := by decide +kernel
theorem dX12_spied_29 : decode mX12_spied.2.1 29 = .ok (.iconst (-1), 1) := by decide +kernel
theorem dX12_spied_30 : decode mX12_spied.2.1 30 = .ok (.ireturn, 1) := by decide +kernel
theorem dX12_spied_31 : decode mX12_spied.2.1 31 = .ok (.iconst 0, 1) := by decide +kernel
theorem dX12_spied_32 : decode mX12_spied.2.1 32 = .ok (.istore_n 2, 1) := by decide +kernel
theorem dX12_spied_33 : decode mX12_spied.2.1 33 = .ok (.iconst 0, 1) := by decide +kernel
theorem dX12_spied_34 : decode mX12_spied.2.1 34 = .ok (.istore_n 3, 1) := by decide +kernel
theorem dX12_spied_35 : decode mX12_spied.2.1 35 = .ok (.iload_n 3, 1) := by decide +kernel
theorem dX12_spied_36 : decode mX12_spied.2.1 36 = .ok (.aload_n 0, 1) := by decide +kernel
theorem dX12_spied_37 : decode mX12_spied.2.1 37 = .ok (.getfield 37, 3) := by decide +kernel
theorem dX12_spied_40 : decode mX12_spied.2.1 40 = .ok (.iconst 1, 1) := by decide +kernel
theorem dX12_spied_41 : decode mX12_spied.2.1 41 = .ok (.iaload, 1) := by decide +kernel
theorem dX12_spied_42 : decode mX12_spied.2.1 42 = .ok (.if_icmp .ge 25, 3) := by decide +kernel
theorem dX12_spied_45 : decode mX12_spied.2.1 45 = .ok (.iload_n 2, 1) := by decide +kernel
theorem dX12_spied_46 : decode mX12_spied.2.1 46 = .ok (.aload_n 0, 1) := by decide +kernel
theorem dX12_spied_47 : decode mX12_spied.2.1 47 = .ok (.iload_n 3, 1) := by decide +kernel
theorem dX12_spied_48 : decode mX12_spied.2.1 48 = .ok (.invokevirtual 298, 3) := by decide +kernel
theorem dX12_spied_51 : decode mX12_spied.2.1 51 = .ok (.ifCond .eq 7, 3) := by decide +kernel
theorem dX12_spied_54 : decode mX12_spied.2.1 54 = .ok (.iconst 1, 1) := by decide +kernel
theorem dX12_spied_55 : decode mX12_spied.2.1 55 = .ok (.goto 4, 3) := by decide +kernel
theorem dX12_spied_58 : decode mX12_spied.2.1 58 = .ok (.iconst 0, 1) := by decide +kernel
theorem dX12_spied_59 : decode mX12_spied.2.1 59 = .ok (.iadd, 1) := by decide +kernel
theorem dX12_spied_60 : decode mX12_spied.2.1 60 = .ok (.istore_n 2, 1) := by decide +kernel
theorem dX12_spied_61 : decode mX12_spied.2.1 61 = .ok (.iinc 3 1, 3) := by decide +kernel
theorem dX12_spied_64 : decode mX12_spied.2.1 64 = .ok (.goto (-29), 3) := by decide +kernel
theorem dX12_spied_67 : decode mX12_spied.2.1 67 = .ok (.iload_n 2, 1) := by decide +kernel
theorem dX12_spied_68 : decode mX12_spied.2.1 68 = .ok (.ireturn, 1) := by decide +kernel
theorem dX12_spiedSignals_0 : decode mX12_spiedSignals.2.1 0 = .ok (.iconst 0, 1) := by decide +kernel
theorem dX12_spiedSignals_1 : decode mX12_spiedSignals.2.1 1 = .ok (.istore_n 1, 1) := by decide +kernel
theorem dX12_spiedSignals_2 : decode mX12_spiedSignals.2.1 2 = .ok (.iconst 0, 1) := by decide +kernel
theorem dX12_spiedSignals_3 : decode mX12_spiedSignals.2.1 3 = .ok (.istore_n 2, 1) := by decide +kernel
theorem dX12_spiedSignals_4 : decode mX12_spiedSignals.2.1 4 = .ok (.iload_n 2, 1) := by decide +kernel
theorem dX12_spiedSignals_5 : decode mX12_spiedSignals.2.1 5 = .ok (.aload_n 0, 1) := by decide +kernel
theorem dX12_spiedSignals_6 : decode mX12_spiedSignals.2.1 6 = .ok (.invokevirtual 240, 3) := by decide +kernel
theorem dX12_spiedSignals_9 : decode mX12_spiedSignals.2.1 9 = .ok (.if_icmp .ge 18, 3) := by decide +kernel
theorem dX12_spiedSignals_12 : decode mX12_spiedSignals.2.1 12 = .ok (.iload_n 1, 1) := by decide +kernel
theorem dX12_spiedSignals_13 : decode mX12_spiedSignals.2.1 13 = .ok (.aload_n 0, 1) := by decide +kernel
theorem dX12_spiedSignals_14 : decode mX12_spiedSignals.2.1 14 = .ok (.iload_n 2, 1) := by decide +kernel
theorem dX12_spiedSignals_15 : decode mX12_spiedSignals.2.1 15 = .ok (.iconst 4, 1) := by decide +kernel
theorem dX12_spiedSignals_16 : decode mX12_spiedSignals.2.1 16 = .ok (.invokevirtual 138, 3) := by decide +kernel
theorem dX12_spiedSignals_19 : decode mX12_spiedSignals.2.1 19 = .ok (.iadd, 1) := by decide +kernel
theorem dX12_spiedSignals_20 : decode mX12_spiedSignals.2.1 20 = .ok (.istore_n 1, 1) := by decide +kernel
theorem dX12_spiedSignals_21 : decode mX12_spiedSignals.2.1 21 = .ok (.iinc 2 1, 3) := by decide +kernel
theorem dX12_spiedSignals_24 : decode mX12_spiedSignals.2.1 24 = .ok (.goto (-20), 3) := by decide +kernel
theorem dX12_spiedSignals_27 : decode mX12_spiedSignals.2.1 27 = .ok (.iload_n 1, 1) := by decide +kernel
theorem dX12_spiedSignals_28 : decode mX12_spiedSignals.2.1 28 = .ok (.ireturn, 1) := by decide +kernel
theorem dX12_takesLedger_0 : decode mX12_takesLedger.2.1 0 = .ok (.iconst 0, 1) := by decide +kernel
theorem dX12_takesLedger_1 : decode mX12_takesLedger.2.1 1 = .ok (.istore_n 1, 1) := by decide +kernel
theorem dX12_takesLedger_2 : decode mX12_takesLedger.2.1 2 = .ok (.iload_n 1, 1) := by decide +kernel
theorem dX12_takesLedger_3 : decode mX12_takesLedger.2.1 3 = .ok (.aload_n 0, 1) := by decide +kernel
theorem dX12_takesLedger_4 : decode mX12_takesLedger.2.1 4 = .ok (.getfield 37, 3) := by decide +kernel
theorem dX12_takesLedger_7 : decode mX12_takesLedger.2.1 7 = .ok (.iconst 3, 1) := by decide +kernel
theorem dX12_takesLedger_8 : decode mX12_takesLedger.2.1 8 = .ok (.iaload, 1) := by decide +kernel
theorem dX12_takesLedger_9 : decode mX12_takesLedger.2.1 9 = .ok (.if_icmp .ge 18, 3) := by decide +kernel
theorem dX12_takesLedger_12 : decode mX12_takesLedger.2.1 12 = .ok (.aload_n 0, 1) := by decide +kernel
theorem dX12_takesLedger_13 : decode mX12_takesLedger.2.1 13 = .ok (.iload_n 1, 1) := by decide +kernel
theorem dX12_takesLedger_14 : decode mX12_takesLedger.2.1 14 = .ok (.invokevirtual 266, 3) := by decide +kernel
theorem dX12_takesLedger_17 : decode mX12_takesLedger.2.1 17 = .ok (.aload_n 0, 1) := by decide +kernel
theorem dX12_takesLedger_18 : decode mX12_takesLedger.2.1 18 = .ok (.invokevirtual 281, 3) := by decide +kernel
theorem dX12_takesLedger_21 : decode mX12_takesLedger.2.1 21 = .ok (.iinc 1 1, 3) := by decide +kernel
theorem dX12_takesLedger_24 : decode mX12_takesLedger.2.1 24 = .ok (.goto (-22), 3) := by decide +kernel
theorem dX12_takesLedger_27 : decode mX12_takesLedger.2.1 27 = .ok (.return_, 1) := by decide +kernel
theorem dX12_takesSet_0 : decode mX12_takesSet.2.1 0 = .ok (.aload_n 0, 1) := by decide +kernel
theorem dX12_takesSet_1 : decode mX12_takesSet.2.1 1 = .ok (.invokevirtual 278, 3) := by decide +kernel
theorem dX12_takesSet_4 : decode mX12_takesSet.2.1 4 = .ok (.ifCond .ne 4, 3) := by decide +kernel
theorem dX12_takesSet_7 : decode mX12_takesSet.2.1 7 = .ok (.return_, 1) := by decide +kernel
theorem dX12_takesSet_8 : decode mX12_takesSet.2.1 8 = .ok (.aload_n 0, 1) := by decide +kernel
theorem dX12_takesSet_9 : decode mX12_takesSet.2.1 9 = .ok (.invokevirtual 272, 3) := by decide +kernel
theorem dX12_takesSet_12 : decode mX12_takesSet.2.1 12 = .ok (.istore_n 1, 1) := by decide +kernel
theorem dX12_takesSet_13 : decode mX12_takesSet.2.1 13 = .ok (.iconst 0, 1) := by decide +kernel
theorem dX12_takesSet_14 : decode mX12_takesSet.2.1 14 = .ok (.istore_n 2, 1) := by decide +kernel
theorem dX12_takesSet_15 : decode mX12_takesSet.2.1 15 = .ok (.iload_n 2, 1) := by decide +kernel
theorem dX12_takesSet_16 : decode mX12_takesSet.2.1 16 = .ok (.bipush 8, 2) := by decide +kernel
theorem dX12_takesSet_18 : decode mX12_takesSet.2.1 18 = .ok (.if_icmp .ge 26, 3) := by decide +kernel
theorem dX12_takesSet_21 : decode mX12_takesSet.2.1 21 = .ok (.aload_n 0, 1) := by decide +kernel
theorem dX12_takesSet_22 : decode mX12_takesSet.2.1 22 = .ok (.getfield 61, 3) := by decide +kernel
theorem dX12_takesSet_25 : decode mX12_takesSet.2.1 25 = .ok (.bipush 8, 2) := by decide +kernel
theorem dX12_takesSet_27 : decode mX12_takesSet.2.1 27 = .ok (.iload_n 1, 1) := by decide +kernel
theorem dX12_takesSet_28 : decode mX12_takesSet.2.1 28 = .ok (.imul, 1) := by decide +kernel
theorem dX12_takesSet_29 : decode mX12_takesSet.2.1 29 = .ok (.iload_n 2, 1) := by decide +kernel
theorem dX12_takesSet_30 : decode mX12_takesSet.2.1 30 = .ok (.iadd, 1) := by decide +kernel
theorem dX12_takesSet_31 : decode mX12_takesSet.2.1 31 = .ok (.aload_n 0, 1) := by decide +kernel
theorem dX12_takesSet_32 : decode mX12_takesSet.2.1 32 = .ok (.getfield 58, 3) := by decide +kernel
theorem dX12_takesSet_35 : decode mX12_takesSet.2.1 35 = .ok (.iload_n 2, 1) := by decide +kernel
theorem dX12_takesSet_36 : decode mX12_takesSet.2.1 36 = .ok (.iaload, 1) := by decide +kernel
theorem dX12_takesSet_37 : decode mX12_takesSet.2.1 37 = .ok (.iastore, 1) := by decide +kernel
theorem dX12_takesSet_38 : decode mX12_takesSet.2.1 38 = .ok (.iinc 2 1, 3) := by decide +kernel
theorem dX12_takesSet_41 : decode mX12_takesSet.2.1 41 = .ok (.goto (-26), 3) := by decide +kernel
theorem dX12_takesSet_44 : decode mX12_takesSet.2.1 44 = .ok (.aload_n 0, 1) := by decide +kernel
theorem dX12_takesSet_45 : decode mX12_takesSet.2.1 45 = .ok (.getfield 64, 3) := by decide +kernel
theorem dX12_takesSet_48 : decode mX12_takesSet.2.1 48 = .ok (.iload_n 1, 1) := by decide +kernel
theorem dX12_takesSet_49 : decode mX12_takesSet.2.1 49 = .ok (.iconst 1, 1) := by decide +kernel
theorem dX12_takesSet_50 : decode mX12_takesSet.2.1 50 = .ok (.bastore, 1) := by decide +kernel
theorem dX12_takesSet_51 : decode mX12_takesSet.2.1 51 = .ok (.aload_n 0, 1) := by decide +kernel
theorem dX12_takesSet_52 : decode mX12_takesSet.2.1 52 = .ok (.dup, 1) := by decide +kernel
theorem dX12_takesSet_53 : decode mX12_takesSet.2.1 53 = .ok (.getfield 275, 3) := by decide +kernel
theorem dX12_takesSet_56 : decode mX12_takesSet.2.1 56 = .ok (.iconst 1, 1) := by decide +kernel
theorem dX12_takesSet_57 : decode mX12_takesSet.2.1 57 = .ok (.iadd, 1) := by decide +kernel
theorem dX12_takesSet_58 : decode mX12_takesSet.2.1 58 = .ok (.putfield 275, 3) := by decide +kernel
theorem dX12_takesSet_61 : decode mX12_takesSet.2.1 61 = .ok (.return_, 1) := by decide +kernel
theorem dX12_tells_0 : decode mX12_tells.2.1 0 = .ok (.aload_n 0, 1) := by decide +kernel
theorem dX12_tells_1 : decode mX12_tells.2.1 1 = .ok (.getfield 37, 3) := by decide +kernel
theorem dX12_tells_4 : decode mX12_tells.2.1 4 = .ok (.sipush 3902, 3) := by decide +kernel
theorem dX12_tells_7 : decode mX12_tells.2.1 7 = .ok (.aload_n 0, 1) := by decide +kernel
theorem dX12_tells_8 : decode mX12_tells.2.1 8 = .ok (.getfield 37, 3) := by decide +kernel
theorem dX12_tells_11 : decode mX12_tells.2.1 11 = .ok (.iconst 3, 1) := by decide +kernel
theorem dX12_tells_12 : decode mX12_tells.2.1 12 = .ok (.iaload, 1) := by decide +kernel
theorem dX12_tells_13 : decode mX12_tells.2.1 13 = .ok (.iadd, 1) := by decide +kernel
theorem dX12_tells_14 : decode mX12_tells.2.1 14 = .ok (.iload_n 1, 1) := by decide +kernel
theorem dX12_tells_15 : decode mX12_tells.2.1 15 = .ok (.iload_n 2, 1) := by decide +kernel
theorem dX12_tells_16 : decode mX12_tells.2.1 16 = .ok (.iconst 2, 1) := by decide +kernel
theorem dX12_tells_17 : decode mX12_tells.2.1 17 = .ok (.ishl, 1) := by decide +kernel
theorem dX12_tells_18 : decode mX12_tells.2.1 18 = .ok (.ior, 1) := by decide +kernel
theorem dX12_tells_19 : decode mX12_tells.2.1 19 = .ok (.iload_n 3, 1) := by decide +kernel
theorem dX12_tells_20 : decode mX12_tells.2.1 20 = .ok (.bipush 6, 2) := by decide +kernel
theorem dX12_tells_22 : decode mX12_tells.2.1 22 = .ok (.ishl, 1) := by decide +kernel
theorem dX12_tells_23 : decode mX12_tells.2.1 23 = .ok (.ior, 1) := by decide +kernel
theorem dX12_tells_24 : decode mX12_tells.2.1 24 = .ok (.iload 4, 2) := by decide +kernel
theorem dX12_tells_26 : decode mX12_tells.2.1 26 = .ok (.bipush 9, 2) := by decide +kernel
theorem dX12_tells_28 : decode mX12_tells.2.1 28 = .ok (.ishl, 1) := by decide +kernel
theorem dX12_tells_29 : decode mX12_tells.2.1 29 = .ok (.ior, 1) := by decide +kernel
theorem dX12_tells_30 : decode mX12_tells.2.1 30 = .ok (.iload 5, 2) := by decide +kernel
theorem dX12_tells_32 : decode mX12_tells.2.1 32 = .ok (.bipush 18, 2) := by decide +kernel
theorem dX12_tells_34 : decode mX12_tells.2.1 34 = .ok (.ishl, 1) := by decide +kernel
theorem dX12_tells_35 : decode mX12_tells.2.1 35 = .ok (.ior, 1) := by decide +kernel
theorem dX12_tells_36 : decode mX12_tells.2.1 36 = .ok (.iastore, 1) := by decide +kernel
theorem dX12_tells_37 : decode mX12_tells.2.1 37 = .ok (.aload_n 0, 1) := by decide +kernel
theorem dX12_tells_38 : decode mX12_tells.2.1 38 = .ok (.getfield 37, 3) := by decide +kernel
theorem dX12_tells_41 : decode mX12_tells.2.1 41 = .ok (.iconst 3, 1) := by decide +kernel
theorem dX12_tells_42 : decode mX12_tells.2.1 42 = .ok (.dup2, 1) := by decide +kernel
theorem dX12_tells_43 : decode mX12_tells.2.1 43 = .ok (.iaload, 1) := by decide +kernel
theorem dX12_tells_44 : decode mX12_tells.2.1 44 = .ok (.iconst 1, 1) := by decide +kernel
theorem dX12_tells_45 : decode mX12_tells.2.1 45 = .ok (.iadd, 1) := by decide +kernel
theorem dX12_tells_46 : decode mX12_tells.2.1 46 = .ok (.iastore, 1) := by decide +kernel
theorem dX12_tells_47 : decode mX12_tells.2.1 47 = .ok (.return_, 1) := by decide +kernel
theorem dX12_toldBy_0 : decode mX12_toldBy.2.1 0 = .ok (.aload_n 0, 1) := by decide +kernel
theorem dX12_toldBy_1 : decode mX12_toldBy.2.1 1 = .ok (.iload_n 1, 1) := by decide +kernel
theorem dX12_toldBy_2 : decode mX12_toldBy.2.1 2 = .ok (.putfield 54, 3) := by decide +kernel
theorem dX12_toldBy_5 : decode mX12_toldBy.2.1 5 = .ok (.aload_n 0, 1) := by decide +kernel
theorem dX12_toldBy_6 : decode mX12_toldBy.2.1 6 = .ok (.getfield 37, 3) := by decide +kernel
theorem dX12_toldBy_9 : decode mX12_toldBy.2.1 9 = .ok (.iconst 2, 1) := by decide +kernel
theorem dX12_toldBy_10 : decode mX12_toldBy.2.1 10 = .ok (.iaload, 1) := by decide +kernel
theorem dX12_toldBy_11 : decode mX12_toldBy.2.1 11 = .ok (.aload_n 0, 1) := by decide +kernel
theorem dX12_toldBy_12 : decode mX12_toldBy.2.1 12 = .ok (.getfield 27, 3) := by decide +kernel
theorem dX12_toldBy_15 : decode mX12_toldBy.2.1 15 = .ok (.bipush 6, 2) := by decide +kernel
theorem dX12_toldBy_17 : decode mX12_toldBy.2.1 17 = .ok (.iaload, 1) := by decide +kernel
theorem dX12_toldBy_18 : decode mX12_toldBy.2.1 18 = .ok (.if_icmp .ge 10, 3) := by decide +kernel
theorem dX12_toldBy_21 : decode mX12_toldBy.2.1 21 = .ok (.aload_n 0, 1) := by decide +kernel
theorem dX12_toldBy_22 : decode mX12_toldBy.2.1 22 = .ok (.invokevirtual 204, 3) := by decide +kernel
theorem dX12_toldBy_25 : decode mX12_toldBy.2.1 25 = .ok (.goto (-20), 3) := by decide +kernel
theorem dX12_toldBy_28 : decode mX12_toldBy.2.1 28 = .ok (.aload_n 0, 1) := by decide +kernel
theorem dX12_toldBy_29 : decode mX12_toldBy.2.1 29 = .ok (.invokevirtual 237, 3) := by decide +kernel
theorem dX12_toldBy_32 : decode mX12_toldBy.2.1 32 = .ok (.ifCond .ne 12, 3) := by decide +kernel
theorem dX12_toldBy_35 : decode mX12_toldBy.2.1 35 = .ok (.aload_n 0, 1) := by decide +kernel
theorem dX12_toldBy_36 : decode mX12_toldBy.2.1 36 = .ok (.getfield 37, 3) := by decide +kernel
theorem dX12_toldBy_39 : decode mX12_toldBy.2.1 39 = .ok (.iconst 3, 1) := by decide +kernel
theorem dX12_toldBy_40 : decode mX12_toldBy.2.1 40 = .ok (.iaload, 1) := by decide +kernel
theorem dX12_toldBy_41 : decode mX12_toldBy.2.1 41 = .ok (.goto 4, 3) := by decide +kernel
theorem dX12_toldBy_44 : decode mX12_toldBy.2.1 44 = .ok (.iconst (-1), 1) := by decide +kernel
theorem dX12_toldBy_45 : decode mX12_toldBy.2.1 45 = .ok (.istore_n 2, 1) := by decide +kernel
theorem dX12_toldBy_46 : decode mX12_toldBy.2.1 46 = .ok (.aload_n 0, 1) := by decide +kernel
theorem dX12_toldBy_47 : decode mX12_toldBy.2.1 47 = .ok (.iconst (-1), 1) := by decide +kernel
theorem dX12_toldBy_48 : decode mX12_toldBy.2.1 48 = .ok (.putfield 54, 3) := by decide +kernel
theorem dX12_toldBy_51 : decode mX12_toldBy.2.1 51 = .ok (.aload_n 0, 1) := by decide +kernel
theorem dX12_toldBy_52 : decode mX12_toldBy.2.1 52 = .ok (.invokevirtual 308, 3) := by decide +kernel
theorem dX12_toldBy_55 : decode mX12_toldBy.2.1 55 = .ok (.iload_n 2, 1) := by decide +kernel
theorem dX12_toldBy_56 : decode mX12_toldBy.2.1 56 = .ok (.ireturn, 1) := by decide +kernel
theorem dX12_toldKind_0 : decode mX12_toldKind.2.1 0 = .ok (.aload_n 0, 1) := by decide +kernel
theorem dX12_toldKind_1 : decode mX12_toldKind.2.1 1 = .ok (.getfield 37, 3) := by decide +kernel
theorem dX12_toldKind_4 : decode mX12_toldKind.2.1 4 = .ok (.sipush 3902, 3) := by decide +kernel
theorem dX12_toldKind_7 : decode mX12_toldKind.2.1 7 = .ok (.iload_n 1, 1) := by decide +kernel
theorem dX12_toldKind_8 : decode mX12_toldKind.2.1 8 = .ok (.iadd, 1) := by decide +kernel
theorem dX12_toldKind_9 : decode mX12_toldKind.2.1 9 = .ok (.iaload, 1) := by decide +kernel
theorem dX12_toldKind_10 : decode mX12_toldKind.2.1 10 = .ok (.iconst 3, 1) := by decide +kernel
theorem dX12_toldKind_11 : decode mX12_toldKind.2.1 11 = .ok (.iand, 1) := by decide +kernel
theorem dX12_toldKind_12 : decode mX12_toldKind.2.1 12 = .ok (.ireturn, 1) := by decide +kernel
theorem dX12_toldPart_0 : decode mX12_toldPart.2.1 0 = .ok (.aload_n 0, 1) := by decide +kernel
theorem dX12_toldPart_1 : decode mX12_toldPart.2.1 1 = .ok (.getfield 37, 3) := by decide +kernel
theorem dX12_toldPart_4 : decode mX12_toldPart.2.1 4 = .ok (.sipush 3902, 3) := by decide +kernel
theorem dX12_toldPart_7 : decode mX12_toldPart.2.1 7 = .ok (.iload_n 1, 1) := by decide +kernel
theorem dX12_toldPart_8 : decode mX12_toldPart.2.1 8 = .ok (.iadd, 1) := by decide +kernel
theorem dX12_toldPart_9 : decode mX12_toldPart.2.1 9 = .ok (.iaload, 1) := by decide +kernel
theorem dX12_toldPart_10 : decode mX12_toldPart.2.1 10 = .ok (.iload_n 2, 1) := by decide +kernel
theorem dX12_toldPart_11 : decode mX12_toldPart.2.1 11 = .ok (.ishr, 1) := by decide +kernel
theorem dX12_toldPart_12 : decode mX12_toldPart.2.1 12 = .ok (.iconst 1, 1) := by decide +kernel
theorem dX12_toldPart_13 : decode mX12_toldPart.2.1 13 = .ok (.iload_n 3, 1) := by decide +kernel
theorem dX12_toldPart_14 : decode mX12_toldPart.2.1 14 = .ok (.ishl, 1) := by decide +kernel
theorem dX12_toldPart_15 : decode mX12_toldPart.2.1 15 = .ok (.iconst 1, 1) := by decide +kernel
theorem dX12_toldPart_16 : decode mX12_toldPart.2.1 16 = .ok (.isub, 1) := by decide +kernel
theorem dX12_toldPart_17 : decode mX12_toldPart.2.1 17 = .ok (.iand, 1) := by decide +kernel
theorem dX12_toldPart_18 : decode mX12_toldPart.2.1 18 = .ok (.ireturn, 1) := by decide +kernel
theorem dX12_undo_0 : decode mX12_undo.2.1 0 = .ok (.aload_n 0, 1) := by decide +kernel
theorem dX12_undo_1 : decode mX12_undo.2.1 1 = .ok (.getfield 118, 3) := by decide +kernel
theorem dX12_undo_4 : decode mX12_undo.2.1 4 = .ok (.ifCond .ne 5, 3) := by decide +kernel
theorem dX12_undo_7 : decode mX12_undo.2.1 7 = .ok (.iconst (-1), 1) := by decide +kernel
theorem dX12_undo_8 : decode mX12_undo.2.1 8 = .ok (.ireturn, 1) := by decide +kernel
theorem dX12_undo_9 : decode mX12_undo.2.1 9 = .ok (.aload_n 0, 1) := by decide +kernel
theorem dX12_undo_10 : decode mX12_undo.2.1 10 = .ok (.dup, 1) := by decide +kernel
theorem dX12_undo_11 : decode mX12_undo.2.1 11 = .ok (.getfield 118, 3) := by decide +kernel
theorem dX12_undo_14 : decode mX12_undo.2.1 14 = .ok (.iconst 1, 1) := by decide +kernel
theorem dX12_undo_15 : decode mX12_undo.2.1 15 = .ok (.isub, 1) := by decide +kernel
theorem dX12_undo_16 : decode mX12_undo.2.1 16 = .ok (.putfield 118, 3) := by decide +kernel
theorem dX12_undo_19 : decode mX12_undo.2.1 19 = .ok (.aload_n 0, 1) := by decide +kernel
theorem dX12_undo_20 : decode mX12_undo.2.1 20 = .ok (.getfield 44, 3) := by decide +kernel
theorem dX12_undo_23 : decode mX12_undo.2.1 23 = .ok (.sipush 17510, 3) := by decide +kernel
theorem dX12_undo_26 : decode mX12_undo.2.1 26 = .ok (.aload_n 0, 1) := by decide +kernel
theorem dX12_undo_27 : decode mX12_undo.2.1 27 = .ok (.getfield 118, 3) := by decide +kernel
theorem dX12_undo_30 : decode mX12_undo.2.1 30 = .ok (.imul, 1) := by decide +kernel
theorem dX12_undo_31 : decode mX12_undo.2.1 31 = .ok (.aload_n 0, 1) := by decide +kernel
theorem dX12_undo_32 : decode mX12_undo.2.1 32 = .ok (.getfield 37, 3) := by decide +kernel
theorem dX12_undo_35 : decode mX12_undo.2.1 35 = .ok (.iconst 0, 1) := by decide +kernel
theorem dX12_undo_36 : decode mX12_undo.2.1 36 = .ok (.invokestatic 123, 3) := by decide +kernel
theorem dX12_undo_39 : decode mX12_undo.2.1 39 = .ok (.aload_n 0, 1) := by decide +kernel
theorem dX12_undo_40 : decode mX12_undo.2.1 40 = .ok (.getfield 118, 3) := by decide +kernel
theorem dX12_undo_43 : decode mX12_undo.2.1 43 = .ok (.ireturn, 1) := by decide +kernel
theorem dX12_unlikeMany_0 : decode mX12_unlikeMany.2.1 0 = .ok (.iconst 0, 1) := by decide +kernel
theorem dX12_unlikeMany_1 : decode mX12_unlikeMany.2.1 1 = .ok (.istore_n 1, 1) := by decide +kernel
theorem dX12_unlikeMany_2 : decode mX12_unlikeMany.2.1 2 = .ok (.iconst 0, 1) := by decide +kernel
theorem dX12_unlikeMany_3 : decode mX12_unlikeMany.2.1 3 = .ok (.istore_n 2, 1) := by decide +kernel
theorem dX12_unlikeMany_4 : decode mX12_unlikeMany.2.1 4 = .ok (.iload_n 2, 1) := by decide +kernel
theorem dX12_unlikeMany_5 : decode mX12_unlikeMany.2.1 5 = .ok (.aload_n 0, 1) := by decide +kernel
theorem dX12_unlikeMany_6 : decode mX12_unlikeMany.2.1 6 = .ok (.getfield 37, 3) := by decide +kernel
theorem dX12_unlikeMany_9 : decode mX12_unlikeMany.2.1 9 = .ok (.iconst 1, 1) := by decide +kernel
theorem dX12_unlikeMany_10 : decode mX12_unlikeMany.2.1 10 = .ok (.iaload, 1) := by decide +kernel
theorem dX12_unlikeMany_11 : decode mX12_unlikeMany.2.1 11 = .ok (.if_icmp .ge 40, 3) := by decide +kernel
theorem dX12_unlikeMany_14 : decode mX12_unlikeMany.2.1 14 = .ok (.iload_n 1, 1) := by decide +kernel
theorem dX12_unlikeMany_15 : decode mX12_unlikeMany.2.1 15 = .ok (.aload_n 0, 1) := by decide +kernel
theorem dX12_unlikeMany_16 : decode mX12_unlikeMany.2.1 16 = .ok (.getfield 37, 3) := by decide +kernel
theorem dX12_unlikeMany_19 : decode mX12_unlikeMany.2.1 19 = .ok (.sipush 276, 3) := by decide +kernel
theorem dX12_unlikeMany_22 : decode mX12_unlikeMany.2.1 22 = .ok (.iload_n 2, 1) := by decide +kernel
theorem dX12_unlikeMany_23 : decode mX12_unlikeMany.2.1 23 = .ok (.iadd, 1) := by decide +kernel
theorem dX12_unlikeMany_24 : decode mX12_unlikeMany.2.1 24 = .ok (.iaload, 1) := by decide +kernel
theorem dX12_unlikeMany_25 : decode mX12_unlikeMany.2.1 25 = .ok (.aload_n 0, 1) := by decide +kernel
theorem dX12_unlikeMany_26 : decode mX12_unlikeMany.2.1 26 = .ok (.getfield 37, 3) := by decide +kernel
theorem dX12_unlikeMany_29 : decode mX12_unlikeMany.2.1 29 = .ok (.sipush 532, 3) := by decide +kernel
theorem dX12_unlikeMany_32 : decode mX12_unlikeMany.2.1 32 = .ok (.iload_n 2, 1) := by decide +kernel
theorem dX12_unlikeMany_33 : decode mX12_unlikeMany.2.1 33 = .ok (.iadd, 1) := by decide +kernel
theorem dX12_unlikeMany_34 : decode mX12_unlikeMany.2.1 34 = .ok (.iaload, 1) := by decide +kernel
theorem dX12_unlikeMany_35 : decode mX12_unlikeMany.2.1 35 = .ok (.if_icmp .ne 7, 3) := by decide +kernel
theorem dX12_unlikeMany_38 : decode mX12_unlikeMany.2.1 38 = .ok (.iconst 0, 1) := by decide +kernel
theorem dX12_unlikeMany_39 : decode mX12_unlikeMany.2.1 39 = .ok (.goto 4, 3) := by decide +kernel
theorem dX12_unlikeMany_42 : decode mX12_unlikeMany.2.1 42 = .ok (.iconst 1, 1) := by decide +kernel
theorem dX12_unlikeMany_43 : decode mX12_unlikeMany.2.1 43 = .ok (.iadd, 1) := by decide +kernel
theorem dX12_unlikeMany_44 : decode mX12_unlikeMany.2.1 44 = .ok (.istore_n 1, 1) := by decide +kernel
theorem dX12_unlikeMany_45 : decode mX12_unlikeMany.2.1 45 = .ok (.iinc 2 1, 3) := by decide +kernel
theorem dX12_unlikeMany_48 : decode mX12_unlikeMany.2.1 48 = .ok (.goto (-44), 3) := by decide +kernel
theorem dX12_unlikeMany_51 : decode mX12_unlikeMany.2.1 51 = .ok (.iload_n 1, 1) := by decide +kernel
theorem dX12_unlikeMany_52 : decode mX12_unlikeMany.2.1 52 = .ok (.ireturn, 1) := by decide +kernel
theorem dX12_winnow_0 : decode mX12_winnow.2.1 0 = .ok (.aload_n 0, 1) := by decide +kernel
theorem dX12_winnow_1 : decode mX12_winnow.2.1 1 = .ok (.invokevirtual 201, 3) := by decide +kernel
theorem dX12_winnow_4 : decode mX12_winnow.2.1 4 = .ok (.ifCond .eq 15, 3) := by decide +kernel
theorem dX12_winnow_7 : decode mX12_winnow.2.1 7 = .ok (.aload_n 0, 1) := by decide +kernel
theorem dX12_winnow_8 : decode mX12_winnow.2.1 8 = .ok (.getfield 37, 3) := by decide +kernel
theorem dX12_winnow_11 : decode mX12_winnow.2.1 11 = .ok (.bipush 12, 2) := by decide +kernel
theorem dX12_winnow_13 : decode mX12_winnow.2.1 13 = .ok (.iaload, 1) := by decide +kernel
theorem dX12_winnow_14 : decode mX12_winnow.2.1 14 = .ok (.bipush 8, 2) := by decide +kernel
theorem dX12_winnow_16 : decode mX12_winnow.2.1 16 = .ok (.if_icmp .ne 5, 3) := by decide +kernel
theorem dX12_winnow_19 : decode mX12_winnow.2.1 19 = .ok (.iconst (-1), 1) := by decide +kernel
theorem dX12_winnow_20 : decode mX12_winnow.2.1 20 = .ok (.ireturn, 1) := by decide +kernel
theorem dX12_winnow_21 : decode mX12_winnow.2.1 21 = .ok (.aload_n 0, 1) := by decide +kernel
theorem dX12_winnow_22 : decode mX12_winnow.2.1 22 = .ok (.invokevirtual 149, 3) := by decide +kernel
theorem dX12_winnow_25 : decode mX12_winnow.2.1 25 = .ok (.iconst 0, 1) := by decide +kernel
theorem dX12_winnow_26 : decode mX12_winnow.2.1 26 = .ok (.istore_n 1, 1) := by decide +kernel
theorem dX12_winnow_27 : decode mX12_winnow.2.1 27 = .ok (.iconst 0, 1) := by decide +kernel
theorem dX12_winnow_28 : decode mX12_winnow.2.1 28 = .ok (.istore_n 2, 1) := by decide +kernel
theorem dX12_winnow_29 : decode mX12_winnow.2.1 29 = .ok (.bipush 8, 2) := by decide +kernel
theorem dX12_winnow_31 : decode mX12_winnow.2.1 31 = .ok (.iload_n 2, 1) := by decide +kernel
theorem dX12_winnow_32 : decode mX12_winnow.2.1 32 = .ok (.imul, 1) := by decide +kernel
theorem dX12_winnow_33 : decode mX12_winnow.2.1 33 = .ok (.bipush 7, 2) := by decide +kernel
theorem dX12_winnow_35 : decode mX12_winnow.2.1 35 = .ok (.iadd, 1) := by decide +kernel
theorem dX12_winnow_36 : decode mX12_winnow.2.1 36 = .ok (.aload_n 0, 1) := by decide +kernel
theorem dX12_winnow_37 : decode mX12_winnow.2.1 37 = .ok (.getfield 37, 3) := by decide +kernel
theorem dX12_winnow_40 : decode mX12_winnow.2.1 40 = .ok (.iconst 1, 1) := by decide +kernel
theorem dX12_winnow_41 : decode mX12_winnow.2.1 41 = .ok (.iaload, 1) := by decide +kernel
theorem dX12_winnow_42 : decode mX12_winnow.2.1 42 = .ok (.if_icmp .ge 74, 3) := by decide +kernel
theorem dX12_winnow_45 : decode mX12_winnow.2.1 45 = .ok (.aload_n 0, 1) := by decide +kernel
theorem dX12_winnow_46 : decode mX12_winnow.2.1 46 = .ok (.iload_n 2, 1) := by decide +kernel
theorem dX12_winnow_47 : decode mX12_winnow.2.1 47 = .ok (.iconst 0, 1) := by decide +kernel
theorem dX12_winnow_48 : decode mX12_winnow.2.1 48 = .ok (.invokevirtual 211, 3) := by decide +kernel
theorem dX12_winnow_51 : decode mX12_winnow.2.1 51 = .ok (.ifCond .ne 6, 3) := by decide +kernel
theorem dX12_winnow_54 : decode mX12_winnow.2.1 54 = .ok (.goto 56, 3) := by decide +kernel
theorem dX12_winnow_57 : decode mX12_winnow.2.1 57 = .ok (.iconst 0, 1) := by decide +kernel
theorem dX12_winnow_58 : decode mX12_winnow.2.1 58 = .ok (.istore_n 3, 1) := by decide +kernel
theorem dX12_winnow_59 : decode mX12_winnow.2.1 59 = .ok (.iconst 1, 1) := by decide +kernel
theorem dX12_winnow_60 : decode mX12_winnow.2.1 60 = .ok (.istore 4, 2) := by decide +kernel
theorem dX12_winnow_62 : decode mX12_winnow.2.1 62 = .ok (.iload 4, 2) := by decide +kernel
theorem dX12_winnow_64 : decode mX12_winnow.2.1 64 = .ok (.iconst 3, 1) := by decide +kernel
theorem dX12_winnow_65 : decode mX12_winnow.2.1 65 = .ok (.if_icmp .gt 32, 3) := by decide +kernel
theorem dX12_winnow_68 : decode mX12_winnow.2.1 68 = .ok (.iload_n 3, 1) := by decide +kernel
theorem dX12_winnow_69 : decode mX12_winnow.2.1 69 = .ok (.aload_n 0, 1) := by decide +kernel
theorem dX12_winnow_70 : decode mX12_winnow.2.1 70 = .ok (.iload_n 2, 1) := by decide +kernel
theorem dX12_winnow_71 : decode mX12_winnow.2.1 71 = .ok (.iload 4, 2) := by decide +kernel
theorem dX12_winnow_73 : decode mX12_winnow.2.1 73 = .ok (.invokevirtual 211, 3) := by decide +kernel
theorem dX12_winnow_76 : decode mX12_winnow.2.1 76 = .ok (.ifCond .eq 12, 3) := by decide +kernel
theorem dX12_winnow_79 : decode mX12_winnow.2.1 79 = .ok (.iconst 1, 1) := by decide +kernel
theorem dX12_winnow_80 : decode mX12_winnow.2.1 80 = .ok (.iload 4, 2) := by decide +kernel
theorem dX12_winnow_82 : decode mX12_winnow.2.1 82 = .ok (.iconst 1, 1) := by decide +kernel
theorem dX12_winnow_83 : decode mX12_winnow.2.1 83 = .ok (.isub, 1) := by decide +kernel
theorem dX12_winnow_84 : decode mX12_winnow.2.1 84 = .ok (.ishl, 1) := by decide +kernel
theorem dX12_winnow_85 : decode mX12_winnow.2.1 85 = .ok (.goto 4, 3) := by decide +kernel
theorem dX12_winnow_88 : decode mX12_winnow.2.1 88 = .ok (.iconst 0, 1) := by decide +kernel
theorem dX12_winnow_89 : decode mX12_winnow.2.1 89 = .ok (.ior, 1) := by decide +kernel
theorem dX12_winnow_90 : decode mX12_winnow.2.1 90 = .ok (.istore_n 3, 1) := by decide +kernel
theorem dX12_winnow_91 : decode mX12_winnow.2.1 91 = .ok (.iinc 4 1, 3) := by decide +kernel
theorem dX12_winnow_94 : decode mX12_winnow.2.1 94 = .ok (.goto (-32), 3) := by decide +kernel
theorem dX12_winnow_97 : decode mX12_winnow.2.1 97 = .ok (.aload_n 0, 1) := by decide +kernel
theorem dX12_winnow_98 : decode mX12_winnow.2.1 98 = .ok (.bipush 8, 2) := by decide +kernel
theorem dX12_winnow_100 : decode mX12_winnow.2.1 100 = .ok (.iload_n 2, 1) := by decide +kernel
theorem dX12_winnow_101 : decode mX12_winnow.2.1 101 = .ok (.imul, 1) := by decide +kernel
theorem dX12_winnow_102 : decode mX12_winnow.2.1 102 = .ok (.iload_n 3, 1) := by decide +kernel
theorem dX12_winnow_103 : decode mX12_winnow.2.1 103 = .ok (.iadd, 1) := by decide +kernel
theorem dX12_winnow_104 : decode mX12_winnow.2.1 104 = .ok (.invokevirtual 176, 3) := by decide +kernel
theorem dX12_winnow_107 : decode mX12_winnow.2.1 107 = .ok (.iinc 1 1, 3) := by decide +kernel
theorem dX12_winnow_110 : decode mX12_winnow.2.1 110 = .ok (.iinc 2 1, 3) := by decide +kernel
theorem dX12_winnow_113 : decode mX12_winnow.2.1 113 = .ok (.goto (-84), 3) := by decide +kernel
theorem dX12_winnow_116 : decode mX12_winnow.2.1 116 = .ok (.aload_n 0, 1) := by decide +kernel
theorem dX12_winnow_117 : decode mX12_winnow.2.1 117 = .ok (.getfield 37, 3) := by decide +kernel
theorem dX12_winnow_120 : decode mX12_winnow.2.1 120 = .ok (.bipush 12, 2) := by decide +kernel
theorem dX12_winnow_122 : decode mX12_winnow.2.1 122 = .ok (.dup2, 1) := by decide +kernel
theorem dX12_winnow_123 : decode mX12_winnow.2.1 123 = .ok (.iaload, 1) := by decide +kernel
theorem dX12_winnow_124 : decode mX12_winnow.2.1 124 = .ok (.iconst 1, 1) := by decide +kernel
theorem dX12_winnow_125 : decode mX12_winnow.2.1 125 = .ok (.iadd, 1) := by decide +kernel
theorem dX12_winnow_126 : decode mX12_winnow.2.1 126 = .ok (.iastore, 1) := by decide +kernel
theorem dX12_winnow_127 : decode mX12_winnow.2.1 127 = .ok (.aload_n 0, 1) := by decide +kernel
theorem dX12_winnow_128 : decode mX12_winnow.2.1 128 = .ok (.getfield 37, 3) := by decide +kernel
theorem dX12_winnow_131 : decode mX12_winnow.2.1 131 = .ok (.iconst 0, 1) := by decide +kernel
theorem dX12_winnow_132 : decode mX12_winnow.2.1 132 = .ok (.iconst 3, 1) := by decide +kernel
theorem dX12_winnow_133 : decode mX12_winnow.2.1 133 = .ok (.iastore, 1) := by decide +kernel
theorem dX12_winnow_134 : decode mX12_winnow.2.1 134 = .ok (.iload_n 1, 1) := by decide +kernel
theorem dX12_winnow_135 : decode mX12_winnow.2.1 135 = .ok (.ireturn, 1) := by decide +kernel
theorem dX12_wordHere_0 : decode mX12_wordHere.2.1 0 = .ok (.aload_n 0, 1) := by decide +kernel
theorem dX12_wordHere_1 : decode mX12_wordHere.2.1 1 = .ok (.invokevirtual 90, 3) := by decide +kernel
theorem dX12_wordHere_4 : decode mX12_wordHere.2.1 4 = .ok (.pop, 1) := by decide +kernel
theorem dX12_wordHere_5 : decode mX12_wordHere.2.1 5 = .ok (.iconst 0, 1) := by decide +kernel
theorem dX12_wordHere_6 : decode mX12_wordHere.2.1 6 = .ok (.istore_n 1, 1) := by decide +kernel
theorem dX12_wordHere_7 : decode mX12_wordHere.2.1 7 = .ok (.iload_n 1, 1) := by decide +kernel
theorem dX12_wordHere_8 : decode mX12_wordHere.2.1 8 = .ok (.bipush 9, 2) := by decide +kernel
theorem dX12_wordHere_10 : decode mX12_wordHere.2.1 10 = .ok (.if_icmp .ge 87, 3) := by decide +kernel
theorem dX12_wordHere_13 : decode mX12_wordHere.2.1 13 = .ok (.iconst 0, 1) := by decide +kernel
theorem dX12_wordHere_14 : decode mX12_wordHere.2.1 14 = .ok (.istore_n 2, 1) := by decide +kernel
theorem dX12_wordHere_15 : decode mX12_wordHere.2.1 15 = .ok (.aload_n 0, 1) := by decide +kernel
theorem dX12_wordHere_16 : decode mX12_wordHere.2.1 16 = .ok (.getfield 13, 3) := by decide +kernel
theorem dX12_wordHere_19 : decode mX12_wordHere.2.1 19 = .ok (.bipush 8, 2) := by decide +kernel
theorem dX12_wordHere_21 : decode mX12_wordHere.2.1 21 = .ok (.iload_n 1, 1) := by decide +kernel
theorem dX12_wordHere_22 : decode mX12_wordHere.2.1 22 = .ok (.imul, 1) := by decide +kernel
theorem dX12_wordHere_23 : decode mX12_wordHere.2.1 23 = .ok (.iload_n 2, 1) := by decide +kernel
theorem dX12_wordHere_24 : decode mX12_wordHere.2.1 24 = .ok (.iadd, 1) := by decide +kernel
theorem dX12_wordHere_25 : decode mX12_wordHere.2.1 25 = .ok (.baload, 1) := by decide +kernel
theorem dX12_wordHere_26 : decode mX12_wordHere.2.1 26 = .ok (.ifCond .eq 33, 3) := by decide +kernel
theorem dX12_wordHere_29 : decode mX12_wordHere.2.1 29 = .ok (.aload_n 0, 1) := by decide +kernel
theorem dX12_wordHere_30 : decode mX12_wordHere.2.1 30 = .ok (.aload_n 0, 1) := by decide +kernel
theorem dX12_wordHere_31 : decode mX12_wordHere.2.1 31 = .ok (.getfield 83, 3) := by decide +kernel
theorem dX12_wordHere_34 : decode mX12_wordHere.2.1 34 = .ok (.iload_n 2, 1) := by decide +kernel
theorem dX12_wordHere_35 : decode mX12_wordHere.2.1 35 = .ok (.iadd, 1) := by decide +kernel
theorem dX12_wordHere_36 : decode mX12_wordHere.2.1 36 = .ok (.invokevirtual 86, 3) := by decide +kernel
theorem dX12_wordHere_39 : decode mX12_wordHere.2.1 39 = .ok (.aload_n 0, 1) := by decide +kernel
theorem dX12_wordHere_40 : decode mX12_wordHere.2.1 40 = .ok (.getfield 13, 3) := by decide +kernel
theorem dX12_wordHere_43 : decode mX12_wordHere.2.1 43 = .ok (.bipush 8, 2) := by decide +kernel
theorem dX12_wordHere_45 : decode mX12_wordHere.2.1 45 = .ok (.iload_n 1, 1) := by decide +kernel
theorem dX12_wordHere_46 : decode mX12_wordHere.2.1 46 = .ok (.imul, 1) := by decide +kernel
theorem dX12_wordHere_47 : decode mX12_wordHere.2.1 47 = .ok (.iload_n 2, 1) := by decide +kernel
theorem dX12_wordHere_48 : decode mX12_wordHere.2.1 48 = .ok (.iadd, 1) := by decide +kernel
theorem dX12_wordHere_49 : decode mX12_wordHere.2.1 49 = .ok (.baload, 1) := by decide +kernel
theorem dX12_wordHere_50 : decode mX12_wordHere.2.1 50 = .ok (.if_icmp .ne 9, 3) := by decide +kernel
theorem dX12_wordHere_53 : decode mX12_wordHere.2.1 53 = .ok (.iinc 2 1, 3) := by decide +kernel
theorem dX12_wordHere_56 : decode mX12_wordHere.2.1 56 = .ok (.goto (-41), 3) := by decide +kernel
theorem dX12_wordHere_59 : decode mX12_wordHere.2.1 59 = .ok (.aload_n 0, 1) := by decide +kernel
theorem dX12_wordHere_60 : decode mX12_wordHere.2.1 60 = .ok (.getfield 13, 3) := by decide +kernel
theorem dX12_wordHere_63 : decode mX12_wordHere.2.1 63 = .ok (.bipush 8, 2) := by decide +kernel
theorem dX12_wordHere_65 : decode mX12_wordHere.2.1 65 = .ok (.iload_n 1, 1) := by decide +kernel
theorem dX12_wordHere_66 : decode mX12_wordHere.2.1 66 = .ok (.imul, 1) := by decide +kernel
theorem dX12_wordHere_67 : decode mX12_wordHere.2.1 67 = .ok (.iload_n 2, 1) := by decide +kernel
theorem dX12_wordHere_68 : decode mX12_wordHere.2.1 68 = .ok (.iadd, 1) := by decide +kernel
theorem dX12_wordHere_69 : decode mX12_wordHere.2.1 69 = .ok (.baload, 1) := by decide +kernel
theorem dX12_wordHere_70 : decode mX12_wordHere.2.1 70 = .ok (.ifCond .ne 21, 3) := by decide +kernel
theorem dX12_wordHere_73 : decode mX12_wordHere.2.1 73 = .ok (.aload_n 0, 1) := by decide +kernel
theorem dX12_wordHere_74 : decode mX12_wordHere.2.1 74 = .ok (.aload_n 0, 1) := by decide +kernel
theorem dX12_wordHere_75 : decode mX12_wordHere.2.1 75 = .ok (.getfield 83, 3) := by decide +kernel
theorem dX12_wordHere_78 : decode mX12_wordHere.2.1 78 = .ok (.iload_n 2, 1) := by decide +kernel
theorem dX12_wordHere_79 : decode mX12_wordHere.2.1 79 = .ok (.iadd, 1) := by decide +kernel
theorem dX12_wordHere_80 : decode mX12_wordHere.2.1 80 = .ok (.invokevirtual 86, 3) := by decide +kernel
theorem dX12_wordHere_83 : decode mX12_wordHere.2.1 83 = .ok (.invokestatic 94, 3) := by decide +kernel
theorem dX12_wordHere_86 : decode mX12_wordHere.2.1 86 = .ok (.ifCond .ne 5, 3) := by decide +kernel
theorem dX12_wordHere_89 : decode mX12_wordHere.2.1 89 = .ok (.iload_n 1, 1) := by decide +kernel
theorem dX12_wordHere_90 : decode mX12_wordHere.2.1 90 = .ok (.ireturn, 1) := by decide +kernel
theorem dX12_wordHere_91 : decode mX12_wordHere.2.1 91 = .ok (.iinc 1 1, 3) := by decide +kernel
theorem dX12_wordHere_94 : decode mX12_wordHere.2.1 94 = .ok (.goto (-87), 3) := by decide +kernel
theorem dX12_wordHere_97 : decode mX12_wordHere.2.1 97 = .ok (.iconst (-1), 1) := by decide +kernel
theorem dX12_wordHere_98 : decode mX12_wordHere.2.1 98 = .ok (.ireturn, 1) := by decide +kernel
theorem dX12_would_0 : decode mX12_would.2.1 0 = .ok (.iload_n 1, 1) := by decide +kernel
theorem dX12_would_1 : decode mX12_would.2.1 1 = .ok (.i2l, 1) := by decide +kernel
theorem dX12_would_2 : decode mX12_would.2.1 2 = .ok (.lconst 0, 1) := by decide +kernel
theorem dX12_would_3 : decode mX12_would.2.1 3 = .ok (.ldc2_w 303, 3) := by decide +kernel
theorem dX12_would_6 : decode mX12_would.2.1 6 = .ok (.invokestatic 76, 3) := by decide +kernel
theorem dX12_would_9 : decode mX12_would.2.1 9 = .ok (.ifCond .eq 20, 3) := by decide +kernel
theorem dX12_would_12 : decode mX12_would.2.1 12 = .ok (.iload_n 2, 1) := by decide +kernel
theorem dX12_would_13 : decode mX12_would.2.1 13 = .ok (.i2l, 1) := by decide +kernel
theorem dX12_would_14 : decode mX12_would.2.1 14 = .ok (.lconst 0, 1) := by decide +kernel
theorem dX12_would_15 : decode mX12_would.2.1 15 = .ok (.lconst 1, 1) := by decide +kernel
theorem dX12_would_16 : decode mX12_would.2.1 16 = .ok (.invokestatic 76, 3) := by decide +kernel
theorem dX12_would_19 : decode mX12_would.2.1 19 = .ok (.ifCond .eq 10, 3) := by decide +kernel
theorem dX12_would_22 : decode mX12_would.2.1 22 = .ok (.aload_n 0, 1) := by decide +kernel
theorem dX12_would_23 : decode mX12_would.2.1 23 = .ok (.invokevirtual 201, 3) := by decide +kernel
theorem dX12_would_26 : decode mX12_would.2.1 26 = .ok (.ifCond .ne 5, 3) := by decide +kernel
theorem dX12_would_29 : decode mX12_would.2.1 29 = .ok (.iconst (-1), 1) := by decide +kernel
theorem dX12_would_30 : decode mX12_would.2.1 30 = .ok (.ireturn, 1) := by decide +kernel
theorem dX12_would_31 : decode mX12_would.2.1 31 = .ok (.aload_n 0, 1) := by decide +kernel
theorem dX12_would_32 : decode mX12_would.2.1 32 = .ok (.invokevirtual 305, 3) := by decide +kernel
theorem dX12_would_35 : decode mX12_would.2.1 35 = .ok (.iconst 0, 1) := by decide +kernel
theorem dX12_would_36 : decode mX12_would.2.1 36 = .ok (.istore_n 3, 1) := by decide +kernel
theorem dX12_would_37 : decode mX12_would.2.1 37 = .ok (.iload_n 3, 1) := by decide +kernel
theorem dX12_would_38 : decode mX12_would.2.1 38 = .ok (.iload_n 1, 1) := by decide +kernel
theorem dX12_would_39 : decode mX12_would.2.1 39 = .ok (.if_icmp .ge 29, 3) := by decide +kernel
theorem dX12_would_42 : decode mX12_would.2.1 42 = .ok (.aload_n 0, 1) := by decide +kernel
theorem dX12_would_43 : decode mX12_would.2.1 43 = .ok (.getfield 37, 3) := by decide +kernel
theorem dX12_would_46 : decode mX12_would.2.1 46 = .ok (.iconst 2, 1) := by decide +kernel
theorem dX12_would_47 : decode mX12_would.2.1 47 = .ok (.iaload, 1) := by decide +kernel
theorem dX12_would_48 : decode mX12_would.2.1 48 = .ok (.aload_n 0, 1) := by decide +kernel
theorem dX12_would_49 : decode mX12_would.2.1 49 = .ok (.getfield 27, 3) := by decide +kernel
theorem dX12_would_52 : decode mX12_would.2.1 52 = .ok (.bipush 6, 2) := by decide +kernel
theorem dX12_would_54 : decode mX12_would.2.1 54 = .ok (.iaload, 1) := by decide +kernel
theorem dX12_would_55 : decode mX12_would.2.1 55 = .ok (.if_icmp .ge 13, 3) := by decide +kernel
theorem dX12_would_58 : decode mX12_would.2.1 58 = .ok (.aload_n 0, 1) := by decide +kernel
theorem dX12_would_59 : decode mX12_would.2.1 59 = .ok (.invokevirtual 204, 3) := by decide +kernel
theorem dX12_would_62 : decode mX12_would.2.1 62 = .ok (.iinc 3 1, 3) := by decide +kernel
theorem dX12_would_65 : decode mX12_would.2.1 65 = .ok (.goto (-28), 3) := by decide +kernel
theorem dX12_would_68 : decode mX12_would.2.1 68 = .ok (.iload_n 2, 1) := by decide +kernel
theorem dX12_would_69 : decode mX12_would.2.1 69 = .ok (.ifCond .ne 10, 3) := by decide +kernel
theorem dX12_would_72 : decode mX12_would.2.1 72 = .ok (.aload_n 0, 1) := by decide +kernel
theorem dX12_would_73 : decode mX12_would.2.1 73 = .ok (.invokevirtual 237, 3) := by decide +kernel
theorem dX12_would_76 : decode mX12_would.2.1 76 = .ok (.goto 9, 3) := by decide +kernel
theorem dX12_would_79 : decode mX12_would.2.1 79 = .ok (.aload_n 0, 1) := by decide +kernel
theorem dX12_would_80 : decode mX12_would.2.1 80 = .ok (.getfield 37, 3) := by decide +kernel
theorem dX12_would_83 : decode mX12_would.2.1 83 = .ok (.iconst 3, 1) := by decide +kernel
theorem dX12_would_84 : decode mX12_would.2.1 84 = .ok (.iaload, 1) := by decide +kernel
theorem dX12_would_85 : decode mX12_would.2.1 85 = .ok (.istore_n 3, 1) := by decide +kernel
theorem dX12_would_86 : decode mX12_would.2.1 86 = .ok (.aload_n 0, 1) := by decide +kernel
theorem dX12_would_87 : decode mX12_would.2.1 87 = .ok (.invokevirtual 308, 3) := by decide +kernel
theorem dX12_would_90 : decode mX12_would.2.1 90 = .ok (.iload_n 3, 1) := by decide +kernel
theorem dX12_would_91 : decode mX12_would.2.1 91 = .ok (.ireturn, 1) := by decide +kernel
theorem dX1_areUnlike_0 : decode mX1_areUnlike.2.1 0 = .ok (.iconst 0, 1) := by decide +kernel
theorem dX1_areUnlike_1 : decode mX1_areUnlike.2.1 1 = .ok (.istore_n 1, 1) := by decide +kernel
theorem dX1_areUnlike_2 : decode mX1_areUnlike.2.1 2 = .ok (.iload_n 1, 1) := by decide +kernel
theorem dX1_areUnlike_3 : decode mX1_areUnlike.2.1 3 = .ok (.aload_n 0, 1) := by decide +kernel
theorem dX1_areUnlike_4 : decode mX1_areUnlike.2.1 4 = .ok (.getfield 9, 3) := by decide +kernel
theorem dX1_areUnlike_7 : decode mX1_areUnlike.2.1 7 = .ok (.if_icmp .ge 26, 3) := by decide +kernel
