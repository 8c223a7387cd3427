theorem dX1_areUnlike_10 : decode mX1_areUnlike.2.1 10 = .ok (.aload_n 0, 1) := by decide +kernel
theorem dX1_areUnlike_11 : decode mX1_areUnlike.2.1 11 = .ok (.getfield 19, 3) := by decide +kernel
theorem dX1_areUnlike_14 : decode mX1_areUnlike.2.1 14 = .ok (.iload_n 1, 1) := by decide +kernel
theorem dX1_areUnlike_15 : decode mX1_areUnlike.2.1 15 = .ok (.iaload, 1) := by decide +kernel
theorem dX1_areUnlike_16 : decode mX1_areUnlike.2.1 16 = .ok (.aload_n 0, 1) := by decide +kernel
theorem dX1_areUnlike_17 : decode mX1_areUnlike.2.1 17 = .ok (.getfield 22, 3) := by decide +kernel
theorem dX1_areUnlike_20 : decode mX1_areUnlike.2.1 20 = .ok (.iload_n 1, 1) := by decide +kernel
theorem dX1_areUnlike_21 : decode mX1_areUnlike.2.1 21 = .ok (.iaload, 1) := by decide +kernel
theorem dX1_areUnlike_22 : decode mX1_areUnlike.2.1 22 = .ok (.if_icmp .eq 5, 3) := by decide +kernel
theorem dX1_areUnlike_25 : decode mX1_areUnlike.2.1 25 = .ok (.iconst 1, 1) := by decide +kernel
theorem dX1_areUnlike_26 : decode mX1_areUnlike.2.1 26 = .ok (.ireturn, 1) := by decide +kernel
theorem dX1_areUnlike_27 : decode mX1_areUnlike.2.1 27 = .ok (.iinc 1 1, 3) := by decide +kernel
theorem dX1_areUnlike_30 : decode mX1_areUnlike.2.1 30 = .ok (.goto (-28), 3) := by decide +kernel
theorem dX1_areUnlike_33 : decode mX1_areUnlike.2.1 33 = .ok (.iconst 0, 1) := by decide +kernel
theorem dX1_areUnlike_34 : decode mX1_areUnlike.2.1 34 = .ok (.ireturn, 1) := by decide +kernel
theorem dX1_clear_0 : decode mX1_clear.2.1 0 = .ok (.aload_n 0, 1) := by decide +kernel
theorem dX1_clear_1 : decode mX1_clear.2.1 1 = .ok (.iconst 0, 1) := by decide +kernel
theorem dX1_clear_2 : decode mX1_clear.2.1 2 = .ok (.putfield 9, 3) := by decide +kernel
theorem dX1_clear_5 : decode mX1_clear.2.1 5 = .ok (.aload_n 0, 1) := by decide +kernel
theorem dX1_clear_6 : decode mX1_clear.2.1 6 = .ok (.iconst 0, 1) := by decide +kernel
theorem dX1_clear_7 : decode mX1_clear.2.1 7 = .ok (.putfield 25, 3) := by decide +kernel
theorem dX1_clear_10 : decode mX1_clear.2.1 10 = .ok (.aload_n 0, 1) := by decide +kernel
theorem dX1_clear_11 : decode mX1_clear.2.1 11 = .ok (.iconst (-1), 1) := by decide +kernel
theorem dX1_clear_12 : decode mX1_clear.2.1 12 = .ok (.putfield 28, 3) := by decide +kernel
theorem dX1_clear_15 : decode mX1_clear.2.1 15 = .ok (.aload_n 0, 1) := by decide +kernel
theorem dX1_clear_16 : decode mX1_clear.2.1 16 = .ok (.iconst (-1), 1) := by decide +kernel
theorem dX1_clear_17 : decode mX1_clear.2.1 17 = .ok (.putfield 31, 3) := by decide +kernel
theorem dX1_clear_20 : decode mX1_clear.2.1 20 = .ok (.return_, 1) := by decide +kernel
theorem dX1_init_0 : decode mX1_init.2.1 0 = .ok (.aload_n 0, 1) := by decide +kernel
theorem dX1_init_1 : decode mX1_init.2.1 1 = .ok (.invokespecial 3, 3) := by decide +kernel
theorem dX1_init_4 : decode mX1_init.2.1 4 = .ok (.aload_n 0, 1) := by decide +kernel
theorem dX1_init_5 : decode mX1_init.2.1 5 = .ok (.iconst 0, 1) := by decide +kernel
theorem dX1_init_6 : decode mX1_init.2.1 6 = .ok (.putfield 9, 3) := by decide +kernel
theorem dX1_init_9 : decode mX1_init.2.1 9 = .ok (.aload_n 0, 1) := by decide +kernel
theorem dX1_init_10 : decode mX1_init.2.1 10 = .ok (.sipush 512, 3) := by decide +kernel
theorem dX1_init_13 : decode mX1_init.2.1 13 = .ok (.newarray .int, 2) := by decide +kernel
theorem dX1_init_15 : decode mX1_init.2.1 15 = .ok (.putfield 15, 3) := by decide +kernel
theorem dX1_init_18 : decode mX1_init.2.1 18 = .ok (.aload_n 0, 1) := by decide +kernel
theorem dX1_init_19 : decode mX1_init.2.1 19 = .ok (.sipush 256, 3) := by decide +kernel
theorem dX1_init_22 : decode mX1_init.2.1 22 = .ok (.newarray .int, 2) := by decide +kernel
theorem dX1_init_24 : decode mX1_init.2.1 24 = .ok (.putfield 19, 3) := by decide +kernel
theorem dX1_init_27 : decode mX1_init.2.1 27 = .ok (.aload_n 0, 1) := by decide +kernel
theorem dX1_init_28 : decode mX1_init.2.1 28 = .ok (.sipush 256, 3) := by decide +kernel
theorem dX1_init_31 : decode mX1_init.2.1 31 = .ok (.newarray .int, 2) := by decide +kernel
theorem dX1_init_33 : decode mX1_init.2.1 33 = .ok (.putfield 22, 3) := by decide +kernel
theorem dX1_init_36 : decode mX1_init.2.1 36 = .ok (.aload_n 0, 1) := by decide +kernel
theorem dX1_init_37 : decode mX1_init.2.1 37 = .ok (.iconst 0, 1) := by decide +kernel
theorem dX1_init_38 : decode mX1_init.2.1 38 = .ok (.putfield 25, 3) := by decide +kernel
theorem dX1_init_41 : decode mX1_init.2.1 41 = .ok (.aload_n 0, 1) := by decide +kernel
theorem dX1_init_42 : decode mX1_init.2.1 42 = .ok (.iconst (-1), 1) := by decide +kernel
theorem dX1_init_43 : decode mX1_init.2.1 43 = .ok (.putfield 28, 3) := by decide +kernel
theorem dX1_init_46 : decode mX1_init.2.1 46 = .ok (.aload_n 0, 1) := by decide +kernel
theorem dX1_init_47 : decode mX1_init.2.1 47 = .ok (.iconst (-1), 1) := by decide +kernel
theorem dX1_init_48 : decode mX1_init.2.1 48 = .ok (.putfield 31, 3) := by decide +kernel
theorem dX1_init_51 : decode mX1_init.2.1 51 = .ok (.return_, 1) := by decide +kernel
theorem dX1_left_0 : decode mX1_left.2.1 0 = .ok (.aload_n 0, 1) := by decide +kernel
theorem dX1_left_1 : decode mX1_left.2.1 1 = .ok (.getfield 9, 3) := by decide +kernel
theorem dX1_left_4 : decode mX1_left.2.1 4 = .ok (.aload_n 0, 1) := by decide +kernel
theorem dX1_left_5 : decode mX1_left.2.1 5 = .ok (.getfield 25, 3) := by decide +kernel
theorem dX1_left_8 : decode mX1_left.2.1 8 = .ok (.isub, 1) := by decide +kernel
theorem dX1_left_9 : decode mX1_left.2.1 9 = .ok (.ireturn, 1) := by decide +kernel
theorem dX1_takeFrom_0 : decode mX1_takeFrom.2.1 0 = .ok (.aload_n 0, 1) := by decide +kernel
theorem dX1_takeFrom_1 : decode mX1_takeFrom.2.1 1 = .ok (.aload_n 1, 1) := by decide +kernel
theorem dX1_takeFrom_2 : decode mX1_takeFrom.2.1 2 = .ok (.getfield 9, 3) := by decide +kernel
theorem dX1_takeFrom_5 : decode mX1_takeFrom.2.1 5 = .ok (.putfield 9, 3) := by decide +kernel
theorem dX1_takeFrom_8 : decode mX1_takeFrom.2.1 8 = .ok (.aload_n 0, 1) := by decide +kernel
theorem dX1_takeFrom_9 : decode mX1_takeFrom.2.1 9 = .ok (.aload_n 1, 1) := by decide +kernel
theorem dX1_takeFrom_10 : decode mX1_takeFrom.2.1 10 = .ok (.getfield 25, 3) := by decide +kernel
theorem dX1_takeFrom_13 : decode mX1_takeFrom.2.1 13 = .ok (.putfield 25, 3) := by decide +kernel
theorem dX1_takeFrom_16 : decode mX1_takeFrom.2.1 16 = .ok (.aload_n 0, 1) := by decide +kernel
theorem dX1_takeFrom_17 : decode mX1_takeFrom.2.1 17 = .ok (.aload_n 1, 1) := by decide +kernel
theorem dX1_takeFrom_18 : decode mX1_takeFrom.2.1 18 = .ok (.getfield 28, 3) := by decide +kernel
theorem dX1_takeFrom_21 : decode mX1_takeFrom.2.1 21 = .ok (.putfield 28, 3) := by decide +kernel
theorem dX1_takeFrom_24 : decode mX1_takeFrom.2.1 24 = .ok (.aload_n 0, 1) := by decide +kernel
theorem dX1_takeFrom_25 : decode mX1_takeFrom.2.1 25 = .ok (.aload_n 1, 1) := by decide +kernel
theorem dX1_takeFrom_26 : decode mX1_takeFrom.2.1 26 = .ok (.getfield 31, 3) := by decide +kernel
theorem dX1_takeFrom_29 : decode mX1_takeFrom.2.1 29 = .ok (.putfield 31, 3) := by decide +kernel
theorem dX1_takeFrom_32 : decode mX1_takeFrom.2.1 32 = .ok (.aload_n 0, 1) := by decide +kernel
theorem dX1_takeFrom_33 : decode mX1_takeFrom.2.1 33 = .ok (.getfield 9, 3) := by decide +kernel
theorem dX1_takeFrom_36 : decode mX1_takeFrom.2.1 36 = .ok (.ifCond .le 53, 3) := by decide +kernel
theorem dX1_takeFrom_39 : decode mX1_takeFrom.2.1 39 = .ok (.aload_n 1, 1) := by decide +kernel
theorem dX1_takeFrom_40 : decode mX1_takeFrom.2.1 40 = .ok (.getfield 15, 3) := by decide +kernel
theorem dX1_takeFrom_43 : decode mX1_takeFrom.2.1 43 = .ok (.iconst 0, 1) := by decide +kernel
theorem dX1_takeFrom_44 : decode mX1_takeFrom.2.1 44 = .ok (.aload_n 0, 1) := by decide +kernel
theorem dX1_takeFrom_45 : decode mX1_takeFrom.2.1 45 = .ok (.getfield 15, 3) := by decide +kernel
theorem dX1_takeFrom_48 : decode mX1_takeFrom.2.1 48 = .ok (.iconst 0, 1) := by decide +kernel
theorem dX1_takeFrom_49 : decode mX1_takeFrom.2.1 49 = .ok (.sipush 512, 3) := by decide +kernel
theorem dX1_takeFrom_52 : decode mX1_takeFrom.2.1 52 = .ok (.invokestatic 34, 3) := by decide +kernel
theorem dX1_takeFrom_55 : decode mX1_takeFrom.2.1 55 = .ok (.aload_n 1, 1) := by decide +kernel
theorem dX1_takeFrom_56 : decode mX1_takeFrom.2.1 56 = .ok (.getfield 19, 3) := by decide +kernel
theorem dX1_takeFrom_59 : decode mX1_takeFrom.2.1 59 = .ok (.iconst 0, 1) := by decide +kernel
theorem dX1_takeFrom_60 : decode mX1_takeFrom.2.1 60 = .ok (.aload_n 0, 1) := by decide +kernel
theorem dX1_takeFrom_61 : decode mX1_takeFrom.2.1 61 = .ok (.getfield 19, 3) := by decide +kernel
theorem dX1_takeFrom_64 : decode mX1_takeFrom.2.1 64 = .ok (.iconst 0, 1) := by decide +kernel
theorem dX1_takeFrom_65 : decode mX1_takeFrom.2.1 65 = .ok (.aload_n 0, 1) := by decide +kernel
theorem dX1_takeFrom_66 : decode mX1_takeFrom.2.1 66 = .ok (.getfield 9, 3) := by decide +kernel
theorem dX1_takeFrom_69 : decode mX1_takeFrom.2.1 69 = .ok (.invokestatic 34, 3) := by decide +kernel
theorem dX1_takeFrom_72 : decode mX1_takeFrom.2.1 72 = .ok (.aload_n 1, 1) := by decide +kernel
theorem dX1_takeFrom_73 : decode mX1_takeFrom.2.1 73 = .ok (.getfield 22, 3) := by decide +kernel
theorem dX1_takeFrom_76 : decode mX1_takeFrom.2.1 76 = .ok (.iconst 0, 1) := by decide +kernel
theorem dX1_takeFrom_77 : decode mX1_takeFrom.2.1 77 = .ok (.aload_n 0, 1) := by decide +kernel
theorem dX1_takeFrom_78 : decode mX1_takeFrom.2.1 78 = .ok (.getfield 22, 3) := by decide +kernel
theorem dX1_takeFrom_81 : decode mX1_takeFrom.2.1 81 = .ok (.iconst 0, 1) := by decide +kernel
theorem dX1_takeFrom_82 : decode mX1_takeFrom.2.1 82 = .ok (.aload_n 0, 1) := by decide +kernel
theorem dX1_takeFrom_83 : decode mX1_takeFrom.2.1 83 = .ok (.getfield 9, 3) := by decide +kernel
theorem dX1_takeFrom_86 : decode mX1_takeFrom.2.1 86 = .ok (.invokestatic 34, 3) := by decide +kernel
theorem dX1_takeFrom_89 : decode mX1_takeFrom.2.1 89 = .ok (.return_, 1) := by decide +kernel
theorem dX1_useByte_0 : decode mX1_useByte.2.1 0 = .ok (.aload_n 0, 1) := by decide +kernel
theorem dX1_useByte_1 : decode mX1_useByte.2.1 1 = .ok (.iload_n 1, 1) := by decide +kernel
theorem dX1_useByte_2 : decode mX1_useByte.2.1 2 = .ok (.putfield 28, 3) := by decide +kernel
theorem dX1_useByte_5 : decode mX1_useByte.2.1 5 = .ok (.iconst 0, 1) := by decide +kernel
theorem dX1_useByte_6 : decode mX1_useByte.2.1 6 = .ok (.istore_n 2, 1) := by decide +kernel
theorem dX1_useByte_7 : decode mX1_useByte.2.1 7 = .ok (.iconst 0, 1) := by decide +kernel
theorem dX1_useByte_8 : decode mX1_useByte.2.1 8 = .ok (.istore_n 3, 1) := by decide +kernel
theorem dX1_useByte_9 : decode mX1_useByte.2.1 9 = .ok (.iload_n 3, 1) := by decide +kernel
theorem dX1_useByte_10 : decode mX1_useByte.2.1 10 = .ok (.bipush 8, 2) := by decide +kernel
theorem dX1_useByte_12 : decode mX1_useByte.2.1 12 = .ok (.if_icmp .ge 72, 3) := by decide +kernel
theorem dX1_useByte_15 : decode mX1_useByte.2.1 15 = .ok (.aload_n 0, 1) := by decide +kernel
theorem dX1_useByte_16 : decode mX1_useByte.2.1 16 = .ok (.getfield 25, 3) := by decide +kernel
theorem dX1_useByte_19 : decode mX1_useByte.2.1 19 = .ok (.aload_n 0, 1) := by decide +kernel
theorem dX1_useByte_20 : decode mX1_useByte.2.1 20 = .ok (.getfield 9, 3) := by decide +kernel
theorem dX1_useByte_23 : decode mX1_useByte.2.1 23 = .ok (.if_icmp .ge 61, 3) := by decide +kernel
theorem dX1_useByte_26 : decode mX1_useByte.2.1 26 = .ok (.bipush 7, 2) := by decide +kernel
theorem dX1_useByte_28 : decode mX1_useByte.2.1 28 = .ok (.iload_n 3, 1) := by decide +kernel
theorem dX1_useByte_29 : decode mX1_useByte.2.1 29 = .ok (.isub, 1) := by decide +kernel
theorem dX1_useByte_30 : decode mX1_useByte.2.1 30 = .ok (.istore 4, 2) := by decide +kernel
theorem dX1_useByte_32 : decode mX1_useByte.2.1 32 = .ok (.aload_n 0, 1) := by decide +kernel
theorem dX1_useByte_33 : decode mX1_useByte.2.1 33 = .ok (.dup, 1) := by decide +kernel
theorem dX1_useByte_34 : decode mX1_useByte.2.1 34 = .ok (.getfield 28, 3) := by decide +kernel
theorem dX1_useByte_37 : decode mX1_useByte.2.1 37 = .ok (.aload_n 0, 1) := by decide +kernel
theorem dX1_useByte_38 : decode mX1_useByte.2.1 38 = .ok (.getfield 19, 3) := by decide +kernel
theorem dX1_useByte_41 : decode mX1_useByte.2.1 41 = .ok (.aload_n 0, 1) := by decide +kernel
theorem dX1_useByte_42 : decode mX1_useByte.2.1 42 = .ok (.getfield 25, 3) := by decide +kernel
theorem dX1_useByte_45 : decode mX1_useByte.2.1 45 = .ok (.iaload, 1) := by decide +kernel
theorem dX1_useByte_46 : decode mX1_useByte.2.1 46 = .ok (.iload 4, 2) := by decide +kernel
theorem dX1_useByte_48 : decode mX1_useByte.2.1 48 = .ok (.ishl, 1) := by decide +kernel
theorem dX1_useByte_49 : decode mX1_useByte.2.1 49 = .ok (.ixor, 1) := by decide +kernel
theorem dX1_useByte_50 : decode mX1_useByte.2.1 50 = .ok (.putfield 28, 3) := by decide +kernel
theorem dX1_useByte_53 : decode mX1_useByte.2.1 53 = .ok (.iload_n 2, 1) := by decide +kernel
theorem dX1_useByte_54 : decode mX1_useByte.2.1 54 = .ok (.aload_n 0, 1) := by decide +kernel
theorem dX1_useByte_55 : decode mX1_useByte.2.1 55 = .ok (.getfield 22, 3) := by decide +kernel
theorem dX1_useByte_58 : decode mX1_useByte.2.1 58 = .ok (.aload_n 0, 1) := by decide +kernel
theorem dX1_useByte_59 : decode mX1_useByte.2.1 59 = .ok (.getfield 25, 3) := by decide +kernel
theorem dX1_useByte_62 : decode mX1_useByte.2.1 62 = .ok (.iaload, 1) := by decide +kernel
theorem dX1_useByte_63 : decode mX1_useByte.2.1 63 = .ok (.iload 4, 2) := by decide +kernel
theorem dX1_useByte_65 : decode mX1_useByte.2.1 65 = .ok (.ishl, 1) := by decide +kernel
theorem dX1_useByte_66 : decode mX1_useByte.2.1 66 = .ok (.ixor, 1) := by decide +kernel
theorem dX1_useByte_67 : decode mX1_useByte.2.1 67 = .ok (.istore_n 2, 1) := by decide +kernel
theorem dX1_useByte_68 : decode mX1_useByte.2.1 68 = .ok (.aload_n 0, 1) := by decide +kernel
theorem dX1_useByte_69 : decode mX1_useByte.2.1 69 = .ok (.dup, 1) := by decide +kernel
theorem dX1_useByte_70 : decode mX1_useByte.2.1 70 = .ok (.getfield 25, 3) := by decide +kernel
theorem dX1_useByte_73 : decode mX1_useByte.2.1 73 = .ok (.iconst 1, 1) := by decide +kernel
theorem dX1_useByte_74 : decode mX1_useByte.2.1 74 = .ok (.iadd, 1) := by decide +kernel
theorem dX1_useByte_75 : decode mX1_useByte.2.1 75 = .ok (.putfield 25, 3) := by decide +kernel
theorem dX1_useByte_78 : decode mX1_useByte.2.1 78 = .ok (.iinc 3 1, 3) := by decide +kernel
theorem dX1_useByte_81 : decode mX1_useByte.2.1 81 = .ok (.goto (-72), 3) := by decide +kernel
theorem dX1_useByte_84 : decode mX1_useByte.2.1 84 = .ok (.aload_n 0, 1) := by decide +kernel
theorem dX1_useByte_85 : decode mX1_useByte.2.1 85 = .ok (.aload_n 0, 1) := by decide +kernel
theorem dX1_useByte_86 : decode mX1_useByte.2.1 86 = .ok (.getfield 28, 3) := by decide +kernel
theorem dX1_useByte_89 : decode mX1_useByte.2.1 89 = .ok (.iload_n 2, 1) := by decide +kernel
theorem dX1_useByte_90 : decode mX1_useByte.2.1 90 = .ok (.ixor, 1) := by decide +kernel
theorem dX1_useByte_91 : decode mX1_useByte.2.1 91 = .ok (.putfield 31, 3) := by decide +kernel
theorem dX1_useByte_94 : decode mX1_useByte.2.1 94 = .ok (.aload_n 0, 1) := by decide +kernel
theorem dX1_useByte_95 : decode mX1_useByte.2.1 95 = .ok (.getfield 28, 3) := by decide +kernel
theorem dX1_useByte_98 : decode mX1_useByte.2.1 98 = .ok (.ireturn, 1) := by decide +kernel
theorem dX2_clear_0 : decode mX2_clear.2.1 0 = .ok (.aload_n 0, 1) := by decide +kernel
theorem dX2_clear_1 : decode mX2_clear.2.1 1 = .ok (.iconst 0, 1) := by decide +kernel
theorem dX2_clear_2 : decode mX2_clear.2.1 2 = .ok (.putfield 21, 3) := by decide +kernel
theorem dX2_clear_5 : decode mX2_clear.2.1 5 = .ok (.return_, 1) := by decide +kernel
theorem dX2_giveBack_0 : decode mX2_giveBack.2.1 0 = .ok (.aload_n 0, 1) := by decide +kernel
theorem dX2_giveBack_1 : decode mX2_giveBack.2.1 1 = .ok (.getfield 21, 3) := by decide +kernel
theorem dX2_giveBack_4 : decode mX2_giveBack.2.1 4 = .ok (.ifCond .le 42, 3) := by decide +kernel
theorem dX2_giveBack_7 : decode mX2_giveBack.2.1 7 = .ok (.aload_n 0, 1) := by decide +kernel
theorem dX2_giveBack_8 : decode mX2_giveBack.2.1 8 = .ok (.aload_n 0, 1) := by decide +kernel
theorem dX2_giveBack_9 : decode mX2_giveBack.2.1 9 = .ok (.getfield 17, 3) := by decide +kernel
theorem dX2_giveBack_12 : decode mX2_giveBack.2.1 12 = .ok (.bipush 12, 2) := by decide +kernel
theorem dX2_giveBack_14 : decode mX2_giveBack.2.1 14 = .ok (.iadd, 1) := by decide +kernel
theorem dX2_giveBack_15 : decode mX2_giveBack.2.1 15 = .ok (.iconst 1, 1) := by decide +kernel
theorem dX2_giveBack_16 : decode mX2_giveBack.2.1 16 = .ok (.isub, 1) := by decide +kernel
theorem dX2_giveBack_17 : decode mX2_giveBack.2.1 17 = .ok (.bipush 12, 2) := by decide +kernel
theorem dX2_giveBack_19 : decode mX2_giveBack.2.1 19 = .ok (.irem, 1) := by decide +kernel
theorem dX2_giveBack_20 : decode mX2_giveBack.2.1 20 = .ok (.putfield 17, 3) := by decide +kernel
theorem dX2_giveBack_23 : decode mX2_giveBack.2.1 23 = .ok (.aload_n 0, 1) := by decide +kernel
theorem dX2_giveBack_24 : decode mX2_giveBack.2.1 24 = .ok (.dup, 1) := by decide +kernel
theorem dX2_giveBack_25 : decode mX2_giveBack.2.1 25 = .ok (.getfield 21, 3) := by decide +kernel
theorem dX2_giveBack_28 : decode mX2_giveBack.2.1 28 = .ok (.iconst 1, 1) := by decide +kernel
theorem dX2_giveBack_29 : decode mX2_giveBack.2.1 29 = .ok (.isub, 1) := by decide +kernel
theorem dX2_giveBack_30 : decode mX2_giveBack.2.1 30 = .ok (.putfield 21, 3) := by decide +kernel
theorem dX2_giveBack_33 : decode mX2_giveBack.2.1 33 = .ok (.aload_n 1, 1) := by decide +kernel
theorem dX2_giveBack_34 : decode mX2_giveBack.2.1 34 = .ok (.aload_n 0, 1) := by decide +kernel
theorem dX2_giveBack_35 : decode mX2_giveBack.2.1 35 = .ok (.getfield 11, 3) := by decide +kernel
theorem dX2_giveBack_38 : decode mX2_giveBack.2.1 38 = .ok (.aload_n 0, 1) := by decide +kernel
theorem dX2_giveBack_39 : decode mX2_giveBack.2.1 39 = .ok (.getfield 17, 3) := by decide +kernel
theorem dX2_giveBack_42 : decode mX2_giveBack.2.1 42 = .ok (.aaload, 1) := by decide +kernel
theorem dX2_giveBack_43 : decode mX2_giveBack.2.1 43 = .ok (.invokevirtual 25, 3) := by decide +kernel
theorem dX2_giveBack_46 : decode mX2_giveBack.2.1 46 = .ok (.return_, 1) := by decide +kernel
theorem dX2_init_0 : decode mX2_init.2.1 0 = .ok (.aload_n 0, 1) := by decide +kernel
theorem dX2_init_1 : decode mX2_init.2.1 1 = .ok (.invokespecial 3, 3) := by decide +kernel
theorem dX2_init_4 : decode mX2_init.2.1 4 = .ok (.aload_n 0, 1) := by decide +kernel
theorem dX2_init_5 : decode mX2_init.2.1 5 = .ok (.bipush 12, 2) := by decide +kernel
theorem dX2_init_7 : decode mX2_init.2.1 7 = .ok (.anewarray 9, 3) := by decide +kernel
theorem dX2_init_10 : decode mX2_init.2.1 10 = .ok (.putfield 11, 3) := by decide +kernel
theorem dX2_init_13 : decode mX2_init.2.1 13 = .ok (.aload_n 0, 1) := by decide +kernel
theorem dX2_init_14 : decode mX2_init.2.1 14 = .ok (.iconst 0, 1) := by decide +kernel
theorem dX2_init_15 : decode mX2_init.2.1 15 = .ok (.putfield 17, 3) := by decide +kernel
theorem dX2_init_18 : decode mX2_init.2.1 18 = .ok (.aload_n 0, 1) := by decide +kernel
theorem dX2_init_19 : decode mX2_init.2.1 19 = .ok (.iconst 0, 1) := by decide +kernel
theorem dX2_init_20 : decode mX2_init.2.1 20 = .ok (.putfield 21, 3) := by decide +kernel
theorem dX2_init_23 : decode mX2_init.2.1 23 = .ok (.iconst 0, 1) := by decide +kernel
theorem dX2_init_24 : decode mX2_init.2.1 24 = .ok (.istore_n 1, 1) := by decide +kernel
theorem dX2_init_25 : decode mX2_init.2.1 25 = .ok (.iload_n 1, 1) := by decide +kernel
theorem dX2_init_26 : decode mX2_init.2.1 26 = .ok (.bipush 12, 2) := by decide +kernel
theorem dX2_init_28 : decode mX2_init.2.1 28 = .ok (.if_icmp .ge 22, 3) := by decide +kernel
theorem dX2_init_31 : decode mX2_init.2.1 31 = .ok (.aload_n 0, 1) := by decide +kernel
theorem dX2_init_32 : decode mX2_init.2.1 32 = .ok (.getfield 11, 3) := by decide +kernel
theorem dX2_init_35 : decode mX2_init.2.1 35 = .ok (.iload_n 1, 1) := by decide +kernel
theorem dX2_init_36 : decode mX2_init.2.1 36 = .ok (.new 9, 3) := by decide +kernel
theorem dX2_init_39 : decode mX2_init.2.1 39 = .ok (.dup, 1) := by decide +kernel
theorem dX2_init_40 : decode mX2_init.2.1 40 = .ok (.invokespecial 24, 3) := by decide +kernel
theorem dX2_init_43 : decode mX2_init.2.1 43 = .ok (.aastore, 1) := by decide +kernel
theorem dX2_init_44 : decode mX2_init.2.1 44 = .ok (.iinc 1 1, 3) := by decide +kernel
theorem dX2_init_47 : decode mX2_init.2.1 47 = .ok (.goto (-22), 3) := by decide +kernel
theorem dX2_init_50 : decode mX2_init.2.1 50 = .ok (.return_, 1) := by decide +kernel
theorem dX2_keep_0 : decode mX2_keep.2.1 0 = .ok (.aload_n 0, 1) := by decide +kernel
theorem dX2_keep_1 : decode mX2_keep.2.1 1 = .ok (.getfield 11, 3) := by decide +kernel
theorem dX2_keep_4 : decode mX2_keep.2.1 4 = .ok (.aload_n 0, 1) := by decide +kernel
theorem dX2_keep_5 : decode mX2_keep.2.1 5 = .ok (.getfield 17, 3) := by decide +kernel
theorem dX2_keep_8 : decode mX2_keep.2.1 8 = .ok (.aaload, 1) := by decide +kernel
theorem dX2_keep_9 : decode mX2_keep.2.1 9 = .ok (.aload_n 1, 1) := by decide +kernel
theorem dX2_keep_10 : decode mX2_keep.2.1 10 = .ok (.invokevirtual 25, 3) := by decide +kernel
theorem dX2_keep_13 : decode mX2_keep.2.1 13 = .ok (.aload_n 0, 1) := by decide +kernel
theorem dX2_keep_14 : decode mX2_keep.2.1 14 = .ok (.aload_n 0, 1) := by decide +kernel
theorem dX2_keep_15 : decode mX2_keep.2.1 15 = .ok (.getfield 17, 3) := by decide +kernel
theorem dX2_keep_18 : decode mX2_keep.2.1 18 = .ok (.iconst 1, 1) := by decide +kernel
theorem dX2_keep_19 : decode mX2_keep.2.1 19 = .ok (.iadd, 1) := by decide +kernel
theorem dX2_keep_20 : decode mX2_keep.2.1 20 = .ok (.bipush 12, 2) := by decide +kernel
theorem dX2_keep_22 : decode mX2_keep.2.1 22 = .ok (.irem, 1) := by decide +kernel
theorem dX2_keep_23 : decode mX2_keep.2.1 23 = .ok (.putfield 17, 3) := by decide +kernel
theorem dX2_keep_26 : decode mX2_keep.2.1 26 = .ok (.aload_n 0, 1) := by decide +kernel
theorem dX2_keep_27 : decode mX2_keep.2.1 27 = .ok (.aload_n 0, 1) := by decide +kernel
theorem dX2_keep_28 : decode mX2_keep.2.1 28 = .ok (.getfield 21, 3) := by decide +kernel
theorem dX2_keep_31 : decode mX2_keep.2.1 31 = .ok (.iconst 1, 1) := by decide +kernel
theorem dX2_keep_32 : decode mX2_keep.2.1 32 = .ok (.iadd, 1) := by decide +kernel
theorem dX2_keep_33 : decode mX2_keep.2.1 33 = .ok (.bipush 12, 2) := by decide +kernel
theorem dX2_keep_35 : decode mX2_keep.2.1 35 = .ok (.invokestatic 29, 3) := by decide +kernel
theorem dX2_keep_38 : decode mX2_keep.2.1 38 = .ok (.putfield 21, 3) := by decide +kernel
theorem dX2_keep_41 : decode mX2_keep.2.1 41 = .ok (.return_, 1) := by decide +kernel
theorem dX3_add_0 : decode mX3_add.2.1 0 = .ok (.aload_n 0, 1) := by decide +kernel
theorem dX3_add_1 : decode mX3_add.2.1 1 = .ok (.getfield 9, 3) := by decide +kernel
theorem dX3_add_4 : decode mX3_add.2.1 4 = .ok (.sipush 256, 3) := by decide +kernel
theorem dX3_add_7 : decode mX3_add.2.1 7 = .ok (.if_icmp .ge 43, 3) := by decide +kernel
theorem dX3_add_10 : decode mX3_add.2.1 10 = .ok (.aload_n 0, 1) := by decide +kernel
theorem dX3_add_11 : decode mX3_add.2.1 11 = .ok (.getfield 15, 3) := by decide +kernel
theorem dX3_add_14 : decode mX3_add.2.1 14 = .ok (.aload_n 0, 1) := by decide +kernel
theorem dX3_add_15 : decode mX3_add.2.1 15 = .ok (.getfield 9, 3) := by decide +kernel
theorem dX3_add_18 : decode mX3_add.2.1 18 = .ok (.iload_n 1, 1) := by decide +kernel
theorem dX3_add_19 : decode mX3_add.2.1 19 = .ok (.iastore, 1) := by decide +kernel
theorem dX3_add_20 : decode mX3_add.2.1 20 = .ok (.aload_n 0, 1) := by decide +kernel
theorem dX3_add_21 : decode mX3_add.2.1 21 = .ok (.getfield 19, 3) := by decide +kernel
theorem dX3_add_24 : decode mX3_add.2.1 24 = .ok (.aload_n 0, 1) := by decide +kernel
theorem dX3_add_25 : decode mX3_add.2.1 25 = .ok (.getfield 9, 3) := by decide +kernel
theorem dX3_add_28 : decode mX3_add.2.1 28 = .ok (.iload_n 2, 1) := by decide +kernel
theorem dX3_add_29 : decode mX3_add.2.1 29 = .ok (.iastore, 1) := by decide +kernel
theorem dX3_add_30 : decode mX3_add.2.1 30 = .ok (.aload_n 0, 1) := by decide +kernel
theorem dX3_add_31 : decode mX3_add.2.1 31 = .ok (.getfield 22, 3) := by decide +kernel
theorem dX3_add_34 : decode mX3_add.2.1 34 = .ok (.aload_n 0, 1) := by decide +kernel
theorem dX3_add_35 : decode mX3_add.2.1 35 = .ok (.getfield 9, 3) := by decide +kernel
theorem dX3_add_38 : decode mX3_add.2.1 38 = .ok (.iload_n 3, 1) := by decide +kernel
theorem dX3_add_39 : decode mX3_add.2.1 39 = .ok (.iastore, 1) := by decide +kernel
theorem dX3_add_40 : decode mX3_add.2.1 40 = .ok (.aload_n 0, 1) := by decide +kernel
theorem dX3_add_41 : decode mX3_add.2.1 41 = .ok (.dup, 1) := by decide +kernel
theorem dX3_add_42 : decode mX3_add.2.1 42 = .ok (.getfield 9, 3) := by decide +kernel
theorem dX3_add_45 : decode mX3_add.2.1 45 = .ok (.iconst 1, 1) := by decide +kernel
theorem dX3_add_46 : decode mX3_add.2.1 46 = .ok (.iadd, 1) := by decide +kernel
theorem dX3_add_47 : decode mX3_add.2.1 47 = .ok (.putfield 9, 3) := by decide +kernel
theorem dX3_add_50 : decode mX3_add.2.1 50 = .ok (.return_, 1) := by decide +kernel
theorem dX3_drop_0 : decode mX3_drop.2.1 0 = .ok (.aload_n 0, 1) := by decide +kernel
theorem dX3_drop_1 : decode mX3_drop.2.1 1 = .ok (.iload_n 1, 1) := by decide +kernel
theorem dX3_drop_2 : decode mX3_drop.2.1 2 = .ok (.invokevirtual 31, 3) := by decide +kernel
theorem dX3_drop_5 : decode mX3_drop.2.1 5 = .ok (.ifCond .ne 4, 3) := by decide +kernel
theorem dX3_drop_8 : decode mX3_drop.2.1 8 = .ok (.return_, 1) := by decide +kernel
theorem dX3_drop_9 : decode mX3_drop.2.1 9 = .ok (.aload_n 0, 1) := by decide +kernel
theorem dX3_drop_10 : decode mX3_drop.2.1 10 = .ok (.dup, 1) := by decide +kernel
theorem dX3_drop_11 : decode mX3_drop.2.1 11 = .ok (.getfield 9, 3) := by decide +kernel
theorem dX3_drop_14 : decode mX3_drop.2.1 14 = .ok (.iconst 1, 1) := by decide +kernel
theorem dX3_drop_15 : decode mX3_drop.2.1 15 = .ok (.isub, 1) := by decide +kernel
theorem dX3_drop_16 : decode mX3_drop.2.1 16 = .ok (.putfield 9, 3) := by decide +kernel
theorem dX3_drop_19 : decode mX3_drop.2.1 19 = .ok (.aload_n 0, 1) := by decide +kernel
theorem dX3_drop_20 : decode mX3_drop.2.1 20 = .ok (.getfield 15, 3) := by decide +kernel
theorem dX3_drop_23 : decode mX3_drop.2.1 23 = .ok (.iload_n 1, 1) := by decide +kernel
theorem dX3_drop_24 : decode mX3_drop.2.1 24 = .ok (.iconst 1, 1) := by decide +kernel
theorem dX3_drop_25 : decode mX3_drop.2.1 25 = .ok (.iadd, 1) := by decide +kernel
theorem dX3_drop_26 : decode mX3_drop.2.1 26 = .ok (.aload_n 0, 1) := by decide +kernel
theorem dX3_drop_27 : decode mX3_drop.2.1 27 = .ok (.getfield 15, 3) := by decide +kernel
theorem dX3_drop_30 : decode mX3_drop.2.1 30 = .ok (.iload_n 1, 1) := by decide +kernel
theorem dX3_drop_31 : decode mX3_drop.2.1 31 = .ok (.aload_n 0, 1) := by decide +kernel
theorem dX3_drop_32 : decode mX3_drop.2.1 32 = .ok (.getfield 9, 3) := by decide +kernel
theorem dX3_drop_35 : decode mX3_drop.2.1 35 = .ok (.iload_n 1, 1) := by decide +kernel
theorem dX3_drop_36 : decode mX3_drop.2.1 36 = .ok (.isub, 1) := by decide +kernel
theorem dX3_drop_37 : decode mX3_drop.2.1 37 = .ok (.invokestatic 25, 3) := by decide +kernel
theorem dX3_drop_40 : decode mX3_drop.2.1 40 = .ok (.aload_n 0, 1) := by decide +kernel
theorem dX3_drop_41 : decode mX3_drop.2.1 41 = .ok (.getfield 19, 3) := by decide +kernel
theorem dX3_drop_44 : decode mX3_drop.2.1 44 = .ok (.iload_n 1, 1) := by decide +kernel
theorem dX3_drop_45 : decode mX3_drop.2.1 45 = .ok (.iconst 1, 1) := by decide +kernel
theorem dX3_drop_46 : decode mX3_drop.2.1 46 = .ok (.iadd, 1) := by decide +kernel
theorem dX3_drop_47 : decode mX3_drop.2.1 47 = .ok (.aload_n 0, 1) := by decide +kernel
theorem dX3_drop_48 : decode mX3_drop.2.1 48 = .ok (.getfield 19, 3) := by decide +kernel
theorem dX3_drop_51 : decode mX3_drop.2.1 51 = .ok (.iload_n 1, 1) := by decide +kernel
theorem dX3_drop_52 : decode mX3_drop.2.1 52 = .ok (.aload_n 0, 1) := by decide +kernel
theorem dX3_drop_53 : decode mX3_drop.2.1 53 = .ok (.getfield 9, 3) := by decide +kernel
theorem dX3_drop_56 : decode mX3_drop.2.1 56 = .ok (.iload_n 1, 1) := by decide +kernel
theorem dX3_drop_57 : decode mX3_drop.2.1 57 = .ok (.isub, 1) := by decide +kernel
theorem dX3_drop_58 : decode mX3_drop.2.1 58 = .ok (.invokestatic 25, 3) := by decide +kernel
theorem dX3_drop_61 : decode mX3_drop.2.1 61 = .ok (.aload_n 0, 1) := by decide +kernel
theorem dX3_drop_62 : decode mX3_drop.2.1 62 = .ok (.getfield 22, 3) := by decide +kernel
theorem dX3_drop_65 : decode mX3_drop.2.1 65 = .ok (.iload_n 1, 1) := by decide +kernel
theorem dX3_drop_66 : decode mX3_drop.2.1 66 = .ok (.iconst 1, 1) := by decide +kernel
theorem dX3_drop_67 : decode mX3_drop.2.1 67 = .ok (.iadd, 1) := by decide +kernel
theorem dX3_drop_68 : decode mX3_drop.2.1 68 = .ok (.aload_n 0, 1) := by decide +kernel
theorem dX3_drop_69 : decode mX3_drop.2.1 69 = .ok (.getfield 22, 3) := by decide +kernel
theorem dX3_drop_72 : decode mX3_drop.2.1 72 = .ok (.iload_n 1, 1) := by decide +kernel
theorem dX3_drop_73 : decode mX3_drop.2.1 73 = .ok (.aload_n 0, 1) := by decide +kernel
theorem dX3_drop_74 : decode mX3_drop.2.1 74 = .ok (.getfield 9, 3) := by decide +kernel
theorem dX3_drop_77 : decode mX3_drop.2.1 77 = .ok (.iload_n 1, 1) := by decide +kernel
theorem dX3_drop_78 : decode mX3_drop.2.1 78 = .ok (.isub, 1) := by decide +kernel
theorem dX3_drop_79 : decode mX3_drop.2.1 79 = .ok (.invokestatic 25, 3) := by decide +kernel
theorem dX3_drop_82 : decode mX3_drop.2.1 82 = .ok (.return_, 1) := by decide +kernel
theorem dX3_has_0 : decode mX3_has.2.1 0 = .ok (.iload_n 1, 1) := by decide +kernel
theorem dX3_has_1 : decode mX3_has.2.1 1 = .ok (.ifCond .lt 15, 3) := by decide +kernel
theorem dX3_has_4 : decode mX3_has.2.1 4 = .ok (.iload_n 1, 1) := by decide +kernel
theorem dX3_has_5 : decode mX3_has.2.1 5 = .ok (.aload_n 0, 1) := by decide +kernel
theorem dX3_has_6 : decode mX3_has.2.1 6 = .ok (.getfield 9, 3) := by decide +kernel
theorem dX3_has_9 : decode mX3_has.2.1 9 = .ok (.if_icmp .ge 7, 3) := by decide +kernel
theorem dX3_has_12 : decode mX3_has.2.1 12 = .ok (.iconst 1, 1) := by decide +kernel
theorem dX3_has_13 : decode mX3_has.2.1 13 = .ok (.goto 4, 3) := by decide +kernel
theorem dX3_has_16 : decode mX3_has.2.1 16 = .ok (.iconst 0, 1) := by decide +kernel
theorem dX3_has_17 : decode mX3_has.2.1 17 = .ok (.ireturn, 1) := by decide +kernel
theorem dX3_init_0 : decode mX3_init.2.1 0 = .ok (.aload_n 0, 1) := by decide +kernel
theorem dX3_init_1 : decode mX3_init.2.1 1 = .ok (.invokespecial 3, 3) := by decide +kernel
theorem dX3_init_4 : decode mX3_init.2.1 4 = .ok (.aload_n 0, 1) := by decide +kernel
theorem dX3_init_5 : decode mX3_init.2.1 5 = .ok (.iconst 0, 1) := by decide +kernel
theorem dX3_init_6 : decode mX3_init.2.1 6 = .ok (.putfield 9, 3) := by decide +kernel
theorem dX3_init_9 : decode mX3_init.2.1 9 = .ok (.aload_n 0, 1) := by decide +kernel
theorem dX3_init_10 : decode mX3_init.2.1 10 = .ok (.sipush 256, 3) := by decide +kernel
theorem dX3_init_13 : decode mX3_init.2.1 13 = .ok (.newarray .int, 2) := by decide +kernel
theorem dX3_init_15 : decode mX3_init.2.1 15 = .ok (.putfield 15, 3) := by decide +kernel
theorem dX3_init_18 : decode mX3_init.2.1 18 = .ok (.aload_n 0, 1) := by decide +kernel
theorem dX3_init_19 : decode mX3_init.2.1 19 = .ok (.sipush 256, 3) := by decide +kernel
theorem dX3_init_22 : decode mX3_init.2.1 22 = .ok (.newarray .int, 2) := by decide +kernel
theorem dX3_init_24 : decode mX3_init.2.1 24 = .ok (.putfield 19, 3) := by decide +kernel
theorem dX3_init_27 : decode mX3_init.2.1 27 = .ok (.aload_n 0, 1) := by decide +kernel
theorem dX3_init_28 : decode mX3_init.2.1 28 = .ok (.sipush 256, 3) := by decide +kernel
theorem dX3_init_31 : decode mX3_init.2.1 31 = .ok (.newarray .int, 2) := by decide +kernel
theorem dX3_init_33 : decode mX3_init.2.1 33 = .ok (.putfield 22, 3) := by decide +kernel
theorem dX3_init_36 : decode mX3_init.2.1 36 = .ok (.return_, 1) := by decide +kernel
theorem dX3_isUnlike_0 : decode mX3_isUnlike.2.1 0 = .ok (.aload_n 0, 1) := by decide +kernel
theorem dX3_isUnlike_1 : decode mX3_isUnlike.2.1 1 = .ok (.iload_n 1, 1) := by decide +kernel
theorem dX3_isUnlike_2 : decode mX3_isUnlike.2.1 2 = .ok (.invokevirtual 31, 3) := by decide +kernel
theorem dX3_isUnlike_5 : decode mX3_isUnlike.2.1 5 = .ok (.ifCond .eq 22, 3) := by decide +kernel
theorem dX3_isUnlike_8 : decode mX3_isUnlike.2.1 8 = .ok (.aload_n 0, 1) := by decide +kernel
theorem dX3_isUnlike_9 : decode mX3_isUnlike.2.1 9 = .ok (.getfield 15, 3) := by decide +kernel
theorem dX3_isUnlike_12 : decode mX3_isUnlike.2.1 12 = .ok (.iload_n 1, 1) := by decide +kernel
theorem dX3_isUnlike_13 : decode mX3_isUnlike.2.1 13 = .ok (.iaload, 1) := by decide +kernel
theorem dX3_isUnlike_14 : decode mX3_isUnlike.2.1 14 = .ok (.aload_n 0, 1) := by decide +kernel
theorem dX3_isUnlike_15 : decode mX3_isUnlike.2.1 15 = .ok (.getfield 19, 3) := by decide +kernel
theorem dX3_isUnlike_18 : decode mX3_isUnlike.2.1 18 = .ok (.iload_n 1, 1) := by decide +kernel
theorem dX3_isUnlike_19 : decode mX3_isUnlike.2.1 19 = .ok (.iaload, 1) := by decide +kernel
theorem dX3_isUnlike_20 : decode mX3_isUnlike.2.1 20 = .ok (.if_icmp .eq 7, 3) := by decide +kernel
theorem dX3_isUnlike_23 : decode mX3_isUnlike.2.1 23 = .ok (.iconst 1, 1) := by decide +kernel
theorem dX3_isUnlike_24 : decode mX3_isUnlike.2.1 24 = .ok (.goto 4, 3) := by decide +kernel
theorem dX3_isUnlike_27 : decode mX3_isUnlike.2.1 27 = .ok (.iconst 0, 1) := by decide +kernel
theorem dX3_isUnlike_28 : decode mX3_isUnlike.2.1 28 = .ok (.ireturn, 1) := by decide +kernel
theorem dX3_knownPlaces_0 : decode mX3_knownPlaces.2.1 0 = .ok (.iconst 0, 1) := by decide +kernel
theorem dX3_knownPlaces_1 : decode mX3_knownPlaces.2.1 1 = .ok (.istore_n 1, 1) := by decide +kernel
theorem dX3_knownPlaces_2 : decode mX3_knownPlaces.2.1 2 = .ok (.iconst 0, 1) := by decide +kernel
theorem dX3_knownPlaces_3 : decode mX3_knownPlaces.2.1 3 = .ok (.istore_n 2, 1) := by decide +kernel
theorem dX3_knownPlaces_4 : decode mX3_knownPlaces.2.1 4 = .ok (.iload_n 2, 1) := by decide +kernel
theorem dX3_knownPlaces_5 : decode mX3_knownPlaces.2.1 5 = .ok (.aload_n 0, 1) := by decide +kernel
theorem dX3_knownPlaces_6 : decode mX3_knownPlaces.2.1 6 = .ok (.getfield 9, 3) := by decide +kernel
theorem dX3_knownPlaces_9 : decode mX3_knownPlaces.2.1 9 = .ok (.if_icmp .ge 18, 3) := by decide +kernel
theorem dX3_knownPlaces_12 : decode mX3_knownPlaces.2.1 12 = .ok (.iload_n 1, 1) := by decide +kernel
theorem dX3_knownPlaces_13 : decode mX3_knownPlaces.2.1 13 = .ok (.aload_n 0, 1) := by decide +kernel
theorem dX3_knownPlaces_14 : decode mX3_knownPlaces.2.1 14 = .ok (.getfield 22, 3) := by decide +kernel
theorem dX3_knownPlaces_17 : decode mX3_knownPlaces.2.1 17 = .ok (.iload_n 2, 1) := by decide +kernel
theorem dX3_knownPlaces_18 : decode mX3_knownPlaces.2.1 18 = .ok (.iaload, 1) := by decide +kernel
theorem dX3_knownPlaces_19 : decode mX3_knownPlaces.2.1 19 = .ok (.iadd, 1) := by decide +kernel
theorem dX3_knownPlaces_20 : decode mX3_knownPlaces.2.1 20 = .ok (.istore_n 1, 1) := by decide +kernel
theorem dX3_knownPlaces_21 : decode mX3_knownPlaces.2.1 21 = .ok (.iinc 2 1, 3) := by decide +kernel
theorem dX3_knownPlaces_24 : decode mX3_knownPlaces.2.1 24 = .ok (.goto (-20), 3) := by decide +kernel
theorem dX3_knownPlaces_27 : decode mX3_knownPlaces.2.1 27 = .ok (.iload_n 1, 1) := by decide +kernel
theorem dX3_knownPlaces_28 : decode mX3_knownPlaces.2.1 28 = .ok (.ireturn, 1) := by decide +kernel
theorem dX3_parity_0 : decode mX3_parity.2.1 0 = .ok (.iconst 0, 1) := by decide +kernel
theorem dX3_parity_1 : decode mX3_parity.2.1 1 = .ok (.istore 4, 2) := by decide +kernel
theorem dX3_parity_3 : decode mX3_parity.2.1 3 = .ok (.iconst 0, 1) := by decide +kernel
theorem dX3_parity_4 : decode mX3_parity.2.1 4 = .ok (.istore 5, 2) := by decide +kernel
theorem dX3_parity_6 : decode mX3_parity.2.1 6 = .ok (.iload 5, 2) := by decide +kernel
theorem dX3_parity_8 : decode mX3_parity.2.1 8 = .ok (.aload_n 0, 1) := by decide +kernel
theorem dX3_parity_9 : decode mX3_parity.2.1 9 = .ok (.getfield 9, 3) := by decide +kernel
theorem dX3_parity_12 : decode mX3_parity.2.1 12 = .ok (.if_icmp .ge 34, 3) := by decide +kernel
theorem dX3_parity_15 : decode mX3_parity.2.1 15 = .ok (.iload_n 3, 1) := by decide +kernel
theorem dX3_parity_16 : decode mX3_parity.2.1 16 = .ok (.iload 5, 2) := by decide +kernel
theorem dX3_parity_18 : decode mX3_parity.2.1 18 = .ok (.iadd, 1) := by decide +kernel
theorem dX3_parity_19 : decode mX3_parity.2.1 19 = .ok (.aload_n 2, 1) := by decide +kernel
theorem dX3_parity_20 : decode mX3_parity.2.1 20 = .ok (.arraylength, 1) := by decide +kernel
theorem dX3_parity_21 : decode mX3_parity.2.1 21 = .ok (.if_icmp .ge 25, 3) := by decide +kernel
theorem dX3_parity_24 : decode mX3_parity.2.1 24 = .ok (.iload 4, 2) := by decide +kernel
theorem dX3_parity_26 : decode mX3_parity.2.1 26 = .ok (.aload_n 1, 1) := by decide +kernel
theorem dX3_parity_27 : decode mX3_parity.2.1 27 = .ok (.iload 5, 2) := by decide +kernel
theorem dX3_parity_29 : decode mX3_parity.2.1 29 = .ok (.iaload, 1) := by decide +kernel
theorem dX3_parity_30 : decode mX3_parity.2.1 30 = .ok (.aload_n 2, 1) := by decide +kernel
theorem dX3_parity_31 : decode mX3_parity.2.1 31 = .ok (.iload_n 3, 1) := by decide +kernel
theorem dX3_parity_32 : decode mX3_parity.2.1 32 = .ok (.iload 5, 2) := by decide +kernel
theorem dX3_parity_34 : decode mX3_parity.2.1 34 = .ok (.iadd, 1) := by decide +kernel
theorem dX3_parity_35 : decode mX3_parity.2.1 35 = .ok (.iaload, 1) := by decide +kernel
theorem dX3_parity_36 : decode mX3_parity.2.1 36 = .ok (.iand, 1) := by decide +kernel
theorem dX3_parity_37 : decode mX3_parity.2.1 37 = .ok (.ixor, 1) := by decide +kernel
theorem dX3_parity_38 : decode mX3_parity.2.1 38 = .ok (.istore 4, 2) := by decide +kernel
theorem dX3_parity_40 : decode mX3_parity.2.1 40 = .ok (.iinc 5 1, 3) := by decide +kernel
theorem dX3_parity_43 : decode mX3_parity.2.1 43 = .ok (.goto (-37), 3) := by decide +kernel
theorem dX3_parity_46 : decode mX3_parity.2.1 46 = .ok (.iload 4, 2) := by decide +kernel
theorem dX3_parity_48 : decode mX3_parity.2.1 48 = .ok (.ireturn, 1) := by decide +kernel
theorem dX3_takeFrom_0 : decode mX3_takeFrom.2.1 0 = .ok (.aload_n 0, 1) := by decide +kernel
theorem dX3_takeFrom_1 : decode mX3_takeFrom.2.1 1 = .ok (.aload_n 1, 1) := by decide +kernel
theorem dX3_takeFrom_2 : decode mX3_takeFrom.2.1 2 = .ok (.getfield 9, 3) := by decide +kernel
theorem dX3_takeFrom_5 : decode mX3_takeFrom.2.1 5 = .ok (.putfield 9, 3) := by decide +kernel
theorem dX3_takeFrom_8 : decode mX3_takeFrom.2.1 8 = .ok (.aload_n 1, 1) := by decide +kernel
theorem dX3_takeFrom_9 : decode mX3_takeFrom.2.1 9 = .ok (.getfield 15, 3) := by decide +kernel
theorem dX3_takeFrom_12 : decode mX3_takeFrom.2.1 12 = .ok (.iconst 0, 1) := by decide +kernel
theorem dX3_takeFrom_13 : decode mX3_takeFrom.2.1 13 = .ok (.aload_n 0, 1) := by decide +kernel
theorem dX3_takeFrom_14 : decode mX3_takeFrom.2.1 14 = .ok (.getfield 15, 3) := by decide +kernel
theorem dX3_takeFrom_17 : decode mX3_takeFrom.2.1 17 = .ok (.iconst 0, 1) := by decide +kernel
theorem dX3_takeFrom_18 : decode mX3_takeFrom.2.1 18 = .ok (.aload_n 0, 1) := by decide +kernel
theorem dX3_takeFrom_19 : decode mX3_takeFrom.2.1 19 = .ok (.getfield 9, 3) := by decide +kernel
theorem dX3_takeFrom_22 : decode mX3_takeFrom.2.1 22 = .ok (.invokestatic 25, 3) := by decide +kernel
theorem dX3_takeFrom_25 : decode mX3_takeFrom.2.1 25 = .ok (.aload_n 1, 1) := by decide +kernel
theorem dX3_takeFrom_26 : decode mX3_takeFrom.2.1 26 = .ok (.getfield 19, 3) := by decide +kernel
theorem dX3_takeFrom_29 : decode mX3_takeFrom.2.1 29 = .ok (.iconst 0, 1) := by decide +kernel
theorem dX3_takeFrom_30 : decode mX3_takeFrom.2.1 30 = .ok (.aload_n 0, 1) := by decide +kernel
theorem dX3_takeFrom_31 : decode mX3_takeFrom.2.1 31 = .ok (.getfield 19, 3) := by decide +kernel
theorem dX3_takeFrom_34 : decode mX3_takeFrom.2.1 34 = .ok (.iconst 0, 1) := by decide +kernel
theorem dX3_takeFrom_35 : decode mX3_takeFrom.2.1 35 = .ok (.aload_n 0, 1) := by decide +kernel
theorem dX3_takeFrom_36 : decode mX3_takeFrom.2.1 36 = .ok (.getfield 9, 3) := by decide +kernel
theorem dX3_takeFrom_39 : decode mX3_takeFrom.2.1 39 = .ok (.invokestatic 25, 3) := by decide +kernel
theorem dX3_takeFrom_42 : decode mX3_takeFrom.2.1 42 = .ok (.aload_n 1, 1) := by decide +kernel
theorem dX3_takeFrom_43 : decode mX3_takeFrom.2.1 43 = .ok (.getfield 22, 3) := by decide +kernel
theorem dX3_takeFrom_46 : decode mX3_takeFrom.2.1 46 = .ok (.iconst 0, 1) := by decide +kernel
theorem dX3_takeFrom_47 : decode mX3_takeFrom.2.1 47 = .ok (.aload_n 0, 1) := by decide +kernel
theorem dX3_takeFrom_48 : decode mX3_takeFrom.2.1 48 = .ok (.getfield 22, 3) := by decide +kernel
theorem dX3_takeFrom_51 : decode mX3_takeFrom.2.1 51 = .ok (.iconst 0, 1) := by decide +kernel
theorem dX3_takeFrom_52 : decode mX3_takeFrom.2.1 52 = .ok (.aload_n 0, 1) := by decide +kernel
theorem dX3_takeFrom_53 : decode mX3_takeFrom.2.1 53 = .ok (.getfield 9, 3) := by decide +kernel
theorem dX3_takeFrom_56 : decode mX3_takeFrom.2.1 56 = .ok (.invokestatic 25, 3) := by decide +kernel
theorem dX3_takeFrom_59 : decode mX3_takeFrom.2.1 59 = .ok (.return_, 1) := by decide +kernel
theorem dX3_turn_0 : decode mX3_turn.2.1 0 = .ok (.aload_n 0, 1) := by decide +kernel
theorem dX3_turn_1 : decode mX3_turn.2.1 1 = .ok (.iload_n 1, 1) := by decide +kernel
theorem dX3_turn_2 : decode mX3_turn.2.1 2 = .ok (.invokevirtual 31, 3) := by decide +kernel
theorem dX3_turn_5 : decode mX3_turn.2.1 5 = .ok (.ifCond .eq 13, 3) := by decide +kernel
theorem dX3_turn_8 : decode mX3_turn.2.1 8 = .ok (.aload_n 0, 1) := by decide +kernel
theorem dX3_turn_9 : decode mX3_turn.2.1 9 = .ok (.getfield 19, 3) := by decide +kernel
theorem dX3_turn_12 : decode mX3_turn.2.1 12 = .ok (.iload_n 1, 1) := by decide +kernel
theorem dX3_turn_13 : decode mX3_turn.2.1 13 = .ok (.dup2, 1) := by decide +kernel
theorem dX3_turn_14 : decode mX3_turn.2.1 14 = .ok (.iaload, 1) := by decide +kernel
theorem dX3_turn_15 : decode mX3_turn.2.1 15 = .ok (.iconst 1, 1) := by decide +kernel
theorem dX3_turn_16 : decode mX3_turn.2.1 16 = .ok (.ixor, 1) := by decide +kernel
theorem dX3_turn_17 : decode mX3_turn.2.1 17 = .ok (.iastore, 1) := by decide +kernel
theorem dX3_turn_18 : decode mX3_turn.2.1 18 = .ok (.return_, 1) := by decide +kernel
theorem dX3_unlike_0 : decode mX3_unlike.2.1 0 = .ok (.iconst 0, 1) := by decide +kernel
theorem dX3_unlike_1 : decode mX3_unlike.2.1 1 = .ok (.istore_n 1, 1) := by decide +kernel
theorem dX3_unlike_2 : decode mX3_unlike.2.1 2 = .ok (.iconst 0, 1) := by decide +kernel
theorem dX3_unlike_3 : decode mX3_unlike.2.1 3 = .ok (.istore_n 2, 1) := by decide +kernel
theorem dX3_unlike_4 : decode mX3_unlike.2.1 4 = .ok (.iload_n 2, 1) := by decide +kernel
theorem dX3_unlike_5 : decode mX3_unlike.2.1 5 = .ok (.aload_n 0, 1) := by decide +kernel
theorem dX3_unlike_6 : decode mX3_unlike.2.1 6 = .ok (.getfield 9, 3) := by decide +kernel
theorem dX3_unlike_9 : decode mX3_unlike.2.1 9 = .ok (.if_icmp .ge 25, 3) := by decide +kernel
theorem dX3_unlike_12 : decode mX3_unlike.2.1 12 = .ok (.iload_n 1, 1) := by decide +kernel
theorem dX3_unlike_13 : decode mX3_unlike.2.1 13 = .ok (.aload_n 0, 1) := by decide +kernel
theorem dX3_unlike_14 : decode mX3_unlike.2.1 14 = .ok (.getfield 15, 3) := by decide +kernel
theorem dX3_unlike_17 : decode mX3_unlike.2.1 17 = .ok (.iload_n 2, 1) := by decide +kernel
theorem dX3_unlike_18 : decode mX3_unlike.2.1 18 = .ok (.iaload, 1) := by decide +kernel
theorem dX3_unlike_19 : decode mX3_unlike.2.1 19 = .ok (.aload_n 0, 1) := by decide +kernel
theorem dX3_unlike_20 : decode mX3_unlike.2.1 20 = .ok (.getfield 19, 3) := by decide +kernel
theorem dX3_unlike_23 : decode mX3_unlike.2.1 23 = .ok (.iload_n 2, 1) := by decide +kernel
theorem dX3_unlike_24 : decode mX3_unlike.2.1 24 = .ok (.iaload, 1) := by decide +kernel
theorem dX3_unlike_25 : decode mX3_unlike.2.1 25 = .ok (.ixor, 1) := by decide +kernel
theorem dX3_unlike_26 : decode mX3_unlike.2.1 26 = .ok (.iadd, 1) := by decide +kernel
theorem dX3_unlike_27 : decode mX3_unlike.2.1 27 = .ok (.istore_n 1, 1) := by decide +kernel
theorem dX3_unlike_28 : decode mX3_unlike.2.1 28 = .ok (.iinc 2 1, 3) := by decide +kernel
theorem dX3_unlike_31 : decode mX3_unlike.2.1 31 = .ok (.goto (-27), 3) := by decide +kernel
theorem dX3_unlike_34 : decode mX3_unlike.2.1 34 = .ok (.iload_n 1, 1) := by decide +kernel
theorem dX3_unlike_35 : decode mX3_unlike.2.1 35 = .ok (.ireturn, 1) := by decide +kernel
theorem dX4_has_0 : decode mX4_has.2.1 0 = .ok (.iload_n 1, 1) := by decide +kernel
theorem dX4_has_1 : decode mX4_has.2.1 1 = .ok (.ifCond .lt 15, 3) := by decide +kernel
theorem dX4_has_4 : decode mX4_has.2.1 4 = .ok (.iload_n 1, 1) := by decide +kernel
theorem dX4_has_5 : decode mX4_has.2.1 5 = .ok (.aload_n 0, 1) := by decide +kernel
theorem dX4_has_6 : decode mX4_has.2.1 6 = .ok (.getfield 9, 3) := by decide +kernel
theorem dX4_has_9 : decode mX4_has.2.1 9 = .ok (.if_icmp .ge 7, 3) := by decide +kernel
theorem dX4_has_12 : decode mX4_has.2.1 12 = .ok (.iconst 1, 1) := by decide +kernel
theorem dX4_has_13 : decode mX4_has.2.1 13 = .ok (.goto 4, 3) := by decide +kernel
theorem dX4_has_16 : decode mX4_has.2.1 16 = .ok (.iconst 0, 1) := by decide +kernel
theorem dX4_has_17 : decode mX4_has.2.1 17 = .ok (.ireturn, 1) := by decide +kernel
theorem dX4_holds_0 : decode mX4_holds.2.1 0 = .ok (.aload_n 0, 1) := by decide +kernel
theorem dX4_holds_1 : decode mX4_holds.2.1 1 = .ok (.getfield 22, 3) := by decide +kernel
theorem dX4_holds_4 : decode mX4_holds.2.1 4 = .ok (.iload_n 1, 1) := by decide +kernel
theorem dX4_holds_5 : decode mX4_holds.2.1 5 = .ok (.iconst 4, 1) := by decide +kernel
theorem dX4_holds_6 : decode mX4_holds.2.1 6 = .ok (.imul, 1) := by decide +kernel
theorem dX4_holds_7 : decode mX4_holds.2.1 7 = .ok (.iload_n 2, 1) := by decide +kernel
theorem dX4_holds_8 : decode mX4_holds.2.1 8 = .ok (.bipush 6, 2) := by decide +kernel
theorem dX4_holds_10 : decode mX4_holds.2.1 10 = .ok (.ishr, 1) := by decide +kernel
theorem dX4_holds_11 : decode mX4_holds.2.1 11 = .ok (.iadd, 1) := by decide +kernel
theorem dX4_holds_12 : decode mX4_holds.2.1 12 = .ok (.laload, 1) := by decide +kernel
theorem dX4_holds_13 : decode mX4_holds.2.1 13 = .ok (.iload_n 2, 1) := by decide +kernel
theorem dX4_holds_14 : decode mX4_holds.2.1 14 = .ok (.bipush 63, 2) := by decide +kernel
theorem dX4_holds_16 : decode mX4_holds.2.1 16 = .ok (.iand, 1) := by decide +kernel
theorem dX4_holds_17 : decode mX4_holds.2.1 17 = .ok (.lushr, 1) := by decide +kernel
theorem dX4_holds_18 : decode mX4_holds.2.1 18 = .ok (.lconst 1, 1) := by decide +kernel
theorem dX4_holds_19 : decode mX4_holds.2.1 19 = .ok (.land, 1) := by decide +kernel
theorem dX4_holds_20 : decode mX4_holds.2.1 20 = .ok (.lconst 0, 1) := by decide +kernel
theorem dX4_holds_21 : decode mX4_holds.2.1 21 = .ok (.lcmp, 1) := by decide +kernel
theorem dX4_holds_22 : decode mX4_holds.2.1 22 = .ok (.ifCond .eq 7, 3) := by decide +kernel
theorem dX4_holds_25 : decode mX4_holds.2.1 25 = .ok (.iconst 1, 1) := by decide +kernel
theorem dX4_holds_26 : decode mX4_holds.2.1 26 = .ok (.goto 4, 3) := by decide +kernel
theorem dX4_holds_29 : decode mX4_holds.2.1 29 = .ok (.iconst 0, 1) := by decide +kernel
theorem dX4_holds_30 : decode mX4_holds.2.1 30 = .ok (.ireturn, 1) := by decide +kernel
theorem dX4_init_0 : decode mX4_init.2.1 0 = .ok (.aload_n 0, 1) := by decide +kernel
theorem dX4_init_1 : decode mX4_init.2.1 1 = .ok (.invokespecial 3, 3) := by decide +kernel
theorem dX4_init_4 : decode mX4_init.2.1 4 = .ok (.aload_n 0, 1) := by decide +kernel
theorem dX4_init_5 : decode mX4_init.2.1 5 = .ok (.iconst 0, 1) := by decide +kernel
theorem dX4_init_6 : decode mX4_init.2.1 6 = .ok (.putfield 9, 3) := by decide +kernel
theorem dX4_init_9 : decode mX4_init.2.1 9 = .ok (.aload_n 0, 1) := by decide +kernel
theorem dX4_init_10 : decode mX4_init.2.1 10 = .ok (.bipush 64, 2) := by decide +kernel
theorem dX4_init_12 : decode mX4_init.2.1 12 = .ok (.newarray .int, 2) := by decide +kernel
theorem dX4_init_14 : decode mX4_init.2.1 14 = .ok (.putfield 15, 3) := by decide +kernel
theorem dX4_init_17 : decode mX4_init.2.1 17 = .ok (.aload_n 0, 1) := by decide +kernel
theorem dX4_init_18 : decode mX4_init.2.1 18 = .ok (.bipush 64, 2) := by decide +kernel
theorem dX4_init_20 : decode mX4_init.2.1 20 = .ok (.newarray .int, 2) := by decide +kernel
theorem dX4_init_22 : decode mX4_init.2.1 22 = .ok (.putfield 19, 3) := by decide +kernel
theorem dX4_init_25 : decode mX4_init.2.1 25 = .ok (.aload_n 0, 1) := by decide +kernel
theorem dX4_init_26 : decode mX4_init.2.1 26 = .ok (.sipush 256, 3) := by decide +kernel
theorem dX4_init_29 : decode mX4_init.2.1 29 = .ok (.newarray .long, 2) := by decide +kernel
theorem dX4_init_31 : decode mX4_init.2.1 31 = .ok (.putfield 22, 3) := by decide +kernel
theorem dX4_init_34 : decode mX4_init.2.1 34 = .ok (.return_, 1) := by decide +kernel
theorem dX4_least_0 : decode mX4_least.2.1 0 = .ok (.iconst 0, 1) := by decide +kernel
theorem dX4_least_1 : decode mX4_least.2.1 1 = .ok (.istore_n 2, 1) := by decide +kernel
theorem dX4_least_2 : decode mX4_least.2.1 2 = .ok (.iload_n 2, 1) := by decide +kernel
theorem dX4_least_3 : decode mX4_least.2.1 3 = .ok (.sipush 256, 3) := by decide +kernel
theorem dX4_least_6 : decode mX4_least.2.1 6 = .ok (.if_icmp .ge 20, 3) := by decide +kernel
theorem dX4_least_9 : decode mX4_least.2.1 9 = .ok (.aload_n 0, 1) := by decide +kernel
theorem dX4_least_10 : decode mX4_least.2.1 10 = .ok (.iload_n 1, 1) := by decide +kernel
theorem dX4_least_11 : decode mX4_least.2.1 11 = .ok (.iload_n 2, 1) := by decide +kernel
theorem dX4_least_12 : decode mX4_least.2.1 12 = .ok (.invokevirtual 47, 3) := by decide +kernel
theorem dX4_least_15 : decode mX4_least.2.1 15 = .ok (.ifCond .eq 5, 3) := by decide +kernel
theorem dX4_least_18 : decode mX4_least.2.1 18 = .ok (.iload_n 2, 1) := by decide +kernel
theorem dX4_least_19 : decode mX4_least.2.1 19 = .ok (.ireturn, 1) := by decide +kernel
theorem dX4_least_20 : decode mX4_least.2.1 20 = .ok (.iinc 2 1, 3) := by decide +kernel
theorem dX4_least_23 : decode mX4_least.2.1 23 = .ok (.goto (-21), 3) := by decide +kernel
theorem dX4_least_26 : decode mX4_least.2.1 26 = .ok (.iconst (-1), 1) := by decide +kernel
theorem dX4_least_27 : decode mX4_least.2.1 27 = .ok (.ireturn, 1) := by decide +kernel
theorem dX4_places_0 : decode mX4_places.2.1 0 = .ok (.iconst 0, 1) := by decide +kernel
theorem dX4_places_1 : decode mX4_places.2.1 1 = .ok (.istore_n 2, 1) := by decide +kernel
theorem dX4_places_2 : decode mX4_places.2.1 2 = .ok (.iconst 0, 1) := by decide +kernel
theorem dX4_places_3 : decode mX4_places.2.1 3 = .ok (.istore_n 3, 1) := by decide +kernel
theorem dX4_places_4 : decode mX4_places.2.1 4 = .ok (.iload_n 3, 1) := by decide +kernel
theorem dX4_places_5 : decode mX4_places.2.1 5 = .ok (.iconst 4, 1) := by decide +kernel
theorem dX4_places_6 : decode mX4_places.2.1 6 = .ok (.if_icmp .ge 25, 3) := by decide +kernel
theorem dX4_places_9 : decode mX4_places.2.1 9 = .ok (.iload_n 2, 1) := by decide +kernel
theorem dX4_places_10 : decode mX4_places.2.1 10 = .ok (.aload_n 0, 1) := by decide +kernel
theorem dX4_places_11 : decode mX4_places.2.1 11 = .ok (.getfield 22, 3) := by decide +kernel
theorem dX4_places_14 : decode mX4_places.2.1 14 = .ok (.iload_n 1, 1) := by decide +kernel
theorem dX4_places_15 : decode mX4_places.2.1 15 = .ok (.iconst 4, 1) := by decide +kernel
theorem dX4_places_16 : decode mX4_places.2.1 16 = .ok (.imul, 1) := by decide +kernel
theorem dX4_places_17 : decode mX4_places.2.1 17 = .ok (.iload_n 3, 1) := by decide +kernel
theorem dX4_places_18 : decode mX4_places.2.1 18 = .ok (.iadd, 1) := by decide +kernel
theorem dX4_places_19 : decode mX4_places.2.1 19 = .ok (.laload, 1) := by decide +kernel
theorem dX4_places_20 : decode mX4_places.2.1 20 = .ok (.invokestatic 41, 3) := by decide +kernel
theorem dX4_places_23 : decode mX4_places.2.1 23 = .ok (.iadd, 1) := by decide +kernel
theorem dX4_places_24 : decode mX4_places.2.1 24 = .ok (.istore_n 2, 1) := by decide +kernel
theorem dX4_places_25 : decode mX4_places.2.1 25 = .ok (.iinc 3 1, 3) := by decide +kernel
theorem dX4_places_28 : decode mX4_places.2.1 28 = .ok (.goto (-24), 3) := by decide +kernel
theorem dX4_places_31 : decode mX4_places.2.1 31 = .ok (.iload_n 2, 1) := by decide +kernel
theorem dX4_places_32 : decode mX4_places.2.1 32 = .ok (.ireturn, 1) := by decide +kernel
theorem dX4_takeFrom_0 : decode mX4_takeFrom.2.1 0 = .ok (.aload_n 0, 1) := by decide +kernel
theorem dX4_takeFrom_1 : decode mX4_takeFrom.2.1 1 = .ok (.getfield 15, 3) := by decide +kernel
theorem dX4_takeFrom_4 : decode mX4_takeFrom.2.1 4 = .ok (.arraylength, 1) := by decide +kernel
theorem dX4_takeFrom_5 : decode mX4_takeFrom.2.1 5 = .ok (.aload_n 1, 1) := by decide +kernel
theorem dX4_takeFrom_6 : decode mX4_takeFrom.2.1 6 = .ok (.getfield 9, 3) := by decide +kernel
theorem dX4_takeFrom_9 : decode mX4_takeFrom.2.1 9 = .ok (.if_icmp .ge 38, 3) := by decide +kernel
theorem dX4_takeFrom_12 : decode mX4_takeFrom.2.1 12 = .ok (.aload_n 0, 1) := by decide +kernel
theorem dX4_takeFrom_13 : decode mX4_takeFrom.2.1 13 = .ok (.aload_n 1, 1) := by decide +kernel
theorem dX4_takeFrom_14 : decode mX4_takeFrom.2.1 14 = .ok (.getfield 15, 3) := by decide +kernel
theorem dX4_takeFrom_17 : decode mX4_takeFrom.2.1 17 = .ok (.arraylength, 1) := by decide +kernel
theorem dX4_takeFrom_18 : decode mX4_takeFrom.2.1 18 = .ok (.newarray .int, 2) := by decide +kernel
theorem dX4_takeFrom_20 : decode mX4_takeFrom.2.1 20 = .ok (.putfield 15, 3) := by decide +kernel
theorem dX4_takeFrom_23 : decode mX4_takeFrom.2.1 23 = .ok (.aload_n 0, 1) := by decide +kernel
theorem dX4_takeFrom_24 : decode mX4_takeFrom.2.1 24 = .ok (.aload_n 1, 1) := by decide +kernel
theorem dX4_takeFrom_25 : decode mX4_takeFrom.2.1 25 = .ok (.getfield 15, 3) := by decide +kernel
theorem dX4_takeFrom_28 : decode mX4_takeFrom.2.1 28 = .ok (.arraylength, 1) := by decide +kernel
theorem dX4_takeFrom_29 : decode mX4_takeFrom.2.1 29 = .ok (.newarray .int, 2) := by decide +kernel
theorem dX4_takeFrom_31 : decode mX4_takeFrom.2.1 31 = .ok (.putfield 19, 3) := by decide +kernel
theorem dX4_takeFrom_34 : decode mX4_takeFrom.2.1 34 = .ok (.aload_n 0, 1) := by decide +kernel
theorem dX4_takeFrom_35 : decode mX4_takeFrom.2.1 35 = .ok (.aload_n 1, 1) := by decide +kernel
theorem dX4_takeFrom_36 : decode mX4_takeFrom.2.1 36 = .ok (.getfield 15, 3) := by decide +kernel
theorem dX4_takeFrom_39 : decode mX4_takeFrom.2.1 39 = .ok (.arraylength, 1) := by decide +kernel
theorem dX4_takeFrom_40 : decode mX4_takeFrom.2.1 40 = .ok (.iconst 4, 1) := by decide +kernel
theorem dX4_takeFrom_41 : decode mX4_takeFrom.2.1 41 = .ok (.imul, 1) := by decide +kernel
theorem dX4_takeFrom_42 : decode mX4_takeFrom.2.1 42 = .ok (.newarray .long, 2) := by decide +kernel
theorem dX4_takeFrom_44 : decode mX4_takeFrom.2.1 44 = .ok (.putfield 22, 3) := by decide +kernel
theorem dX4_takeFrom_47 : decode mX4_takeFrom.2.1 47 = .ok (.aload_n 0, 1) := by decide +kernel
theorem dX4_takeFrom_48 : decode mX4_takeFrom.2.1 48 = .ok (.aload_n 1, 1) := by decide +kernel
theorem dX4_takeFrom_49 : decode mX4_takeFrom.2.1 49 = .ok (.getfield 9, 3) := by decide +kernel
theorem dX4_takeFrom_52 : decode mX4_takeFrom.2.1 52 = .ok (.putfield 9, 3) := by decide +kernel
theorem dX4_takeFrom_55 : decode mX4_takeFrom.2.1 55 = .ok (.aload_n 1, 1) := by decide +kernel
theorem dX4_takeFrom_56 : decode mX4_takeFrom.2.1 56 = .ok (.getfield 15, 3) := by decide +kernel
theorem dX4_takeFrom_59 : decode mX4_takeFrom.2.1 59 = .ok (.iconst 0, 1) := by decide +kernel
theorem dX4_takeFrom_60 : decode mX4_takeFrom.2.1 60 = .ok (.aload_n 0, 1) := by decide +kernel
theorem dX4_takeFrom_61 : decode mX4_takeFrom.2.1 61 = .ok (.getfield 15, 3) := by decide +kernel
theorem dX4_takeFrom_64 : decode mX4_takeFrom.2.1 64 = .ok (.iconst 0, 1) := by decide +kernel
theorem dX4_takeFrom_65 : decode mX4_takeFrom.2.1 65 = .ok (.aload_n 0, 1) := by decide +kernel
theorem dX4_takeFrom_66 : decode mX4_takeFrom.2.1 66 = .ok (.getfield 9, 3) := by decide +kernel
theorem dX4_takeFrom_69 : decode mX4_takeFrom.2.1 69 = .ok (.invokestatic 26, 3) := by decide +kernel
theorem dX4_takeFrom_72 : decode mX4_takeFrom.2.1 72 = .ok (.aload_n 1, 1) := by decide +kernel
theorem dX4_takeFrom_73 : decode mX4_takeFrom.2.1 73 = .ok (.getfield 19, 3) := by decide +kernel
theorem dX4_takeFrom_76 : decode mX4_takeFrom.2.1 76 = .ok (.iconst 0, 1) := by decide +kernel
theorem dX4_takeFrom_77 : decode mX4_takeFrom.2.1 77 = .ok (.aload_n 0, 1) := by decide +kernel
theorem dX4_takeFrom_78 : decode mX4_takeFrom.2.1 78 = .ok (.getfield 19, 3) := by decide +kernel
theorem dX4_takeFrom_81 : decode mX4_takeFrom.2.1 81 = .ok (.iconst 0, 1) := by decide +kernel
theorem dX4_takeFrom_82 : decode mX4_takeFrom.2.1 82 = .ok (.aload_n 0, 1) := by decide +kernel
theorem dX4_takeFrom_83 : decode mX4_takeFrom.2.1 83 = .ok (.getfield 9, 3) := by decide +kernel
theorem dX4_takeFrom_86 : decode mX4_takeFrom.2.1 86 = .ok (.invokestatic 26, 3) := by decide +kernel
theorem dX4_takeFrom_89 : decode mX4_takeFrom.2.1 89 = .ok (.aload_n 1, 1) := by decide +kernel
theorem dX4_takeFrom_90 : decode mX4_takeFrom.2.1 90 = .ok (.getfield 22, 3) := by decide +kernel
theorem dX4_takeFrom_93 : decode mX4_takeFrom.2.1 93 = .ok (.iconst 0, 1) := by decide +kernel
theorem dX4_takeFrom_94 : decode mX4_takeFrom.2.1 94 = .ok (.aload_n 0, 1) := by decide +kernel
theorem dX4_takeFrom_95 : decode mX4_takeFrom.2.1 95 = .ok (.getfield 22, 3) := by decide +kernel
theorem dX4_takeFrom_98 : decode mX4_takeFrom.2.1 98 = .ok (.iconst 0, 1) := by decide +kernel
theorem dX4_takeFrom_99 : decode mX4_takeFrom.2.1 99 = .ok (.aload_n 0, 1) := by decide +kernel
theorem dX4_takeFrom_100 : decode mX4_takeFrom.2.1 100 = .ok (.getfield 9, 3) := by decide +kernel
theorem dX4_takeFrom_103 : decode mX4_takeFrom.2.1 103 = .ok (.iconst 4, 1) := by decide +kernel
theorem dX4_takeFrom_104 : decode mX4_takeFrom.2.1 104 = .ok (.imul, 1) := by decide +kernel
theorem dX4_takeFrom_105 : decode mX4_takeFrom.2.1 105 = .ok (.invokestatic 26, 3) := by decide +kernel
theorem dX4_takeFrom_108 : decode mX4_takeFrom.2.1 108 = .ok (.return_, 1) := by decide +kernel
theorem dX4_tell_0 : decode mX4_tell.2.1 0 = .ok (.aload_n 0, 1) := by decide +kernel
theorem dX4_tell_1 : decode mX4_tell.2.1 1 = .ok (.getfield 9, 3) := by decide +kernel
theorem dX4_tell_4 : decode mX4_tell.2.1 4 = .ok (.aload_n 0, 1) := by decide +kernel
theorem dX4_tell_5 : decode mX4_tell.2.1 5 = .ok (.getfield 15, 3) := by decide +kernel
theorem dX4_tell_8 : decode mX4_tell.2.1 8 = .ok (.arraylength, 1) := by decide +kernel
theorem dX4_tell_9 : decode mX4_tell.2.1 9 = .ok (.if_icmp .lt 56, 3) := by decide +kernel
theorem dX4_tell_12 : decode mX4_tell.2.1 12 = .ok (.aload_n 0, 1) := by decide +kernel
theorem dX4_tell_13 : decode mX4_tell.2.1 13 = .ok (.aload_n 0, 1) := by decide +kernel
theorem dX4_tell_14 : decode mX4_tell.2.1 14 = .ok (.getfield 15, 3) := by decide +kernel
theorem dX4_tell_17 : decode mX4_tell.2.1 17 = .ok (.iconst 2, 1) := by decide +kernel
theorem dX4_tell_18 : decode mX4_tell.2.1 18 = .ok (.aload_n 0, 1) := by decide +kernel
theorem dX4_tell_19 : decode mX4_tell.2.1 19 = .ok (.getfield 9, 3) := by decide +kernel
theorem dX4_tell_22 : decode mX4_tell.2.1 22 = .ok (.imul, 1) := by decide +kernel
theorem dX4_tell_23 : decode mX4_tell.2.1 23 = .ok (.invokestatic 32, 3) := by decide +kernel
theorem dX4_tell_26 : decode mX4_tell.2.1 26 = .ok (.putfield 15, 3) := by decide +kernel
theorem dX4_tell_29 : decode mX4_tell.2.1 29 = .ok (.aload_n 0, 1) := by decide +kernel
theorem dX4_tell_30 : decode mX4_tell.2.1 30 = .ok (.aload_n 0, 1) := by decide +kernel
theorem dX4_tell_31 : decode mX4_tell.2.1 31 = .ok (.getfield 19, 3) := by decide +kernel
theorem dX4_tell_34 : decode mX4_tell.2.1 34 = .ok (.iconst 2, 1) := by decide +kernel
theorem dX4_tell_35 : decode mX4_tell.2.1 35 = .ok (.aload_n 0, 1) := by decide +kernel
theorem dX4_tell_36 : decode mX4_tell.2.1 36 = .ok (.getfield 9, 3) := by decide +kernel
theorem dX4_tell_39 : decode mX4_tell.2.1 39 = .ok (.imul, 1) := by decide +kernel
theorem dX4_tell_40 : decode mX4_tell.2.1 40 = .ok (.invokestatic 32, 3) := by decide +kernel
theorem dX4_tell_43 : decode mX4_tell.2.1 43 = .ok (.putfield 19, 3) := by decide +kernel
theorem dX4_tell_46 : decode mX4_tell.2.1 46 = .ok (.aload_n 0, 1) := by decide +kernel
theorem dX4_tell_47 : decode mX4_tell.2.1 47 = .ok (.aload_n 0, 1) := by decide +kernel
theorem dX4_tell_48 : decode mX4_tell.2.1 48 = .ok (.getfield 22, 3) := by decide +kernel
theorem dX4_tell_51 : decode mX4_tell.2.1 51 = .ok (.iconst 2, 1) := by decide +kernel
theorem dX4_tell_52 : decode mX4_tell.2.1 52 = .ok (.aload_n 0, 1) := by decide +kernel
theorem dX4_tell_53 : decode mX4_tell.2.1 53 = .ok (.getfield 9, 3) := by decide +kernel
theorem dX4_tell_56 : decode mX4_tell.2.1 56 = .ok (.imul, 1) := by decide +kernel
theorem dX4_tell_57 : decode mX4_tell.2.1 57 = .ok (.iconst 4, 1) := by decide +kernel
theorem dX4_tell_58 : decode mX4_tell.2.1 58 = .ok (.imul, 1) := by decide +kernel
theorem dX4_tell_59 : decode mX4_tell.2.1 59 = .ok (.invokestatic 38, 3) := by decide +kernel
theorem dX4_tell_62 : decode mX4_tell.2.1 62 = .ok (.putfield 22, 3) := by decide +kernel
theorem dX4_tell_65 : decode mX4_tell.2.1 65 = .ok (.aload_n 0, 1) := by decide +kernel
theorem dX4_tell_66 : decode mX4_tell.2.1 66 = .ok (.getfield 15, 3) := by decide +kernel
theorem dX4_tell_69 : decode mX4_tell.2.1 69 = .ok (.aload_n 0, 1) := by decide +kernel
theorem dX4_tell_70 : decode mX4_tell.2.1 70 = .ok (.getfield 9, 3) := by decide +kernel
theorem dX4_tell_73 : decode mX4_tell.2.1 73 = .ok (.iload_n 1, 1) := by decide +kernel
theorem dX4_tell_74 : decode mX4_tell.2.1 74 = .ok (.iastore, 1) := by decide +kernel
theorem dX4_tell_75 : decode mX4_tell.2.1 75 = .ok (.aload_n 0, 1) := by decide +kernel
theorem dX4_tell_76 : decode mX4_tell.2.1 76 = .ok (.getfield 19, 3) := by decide +kernel
theorem dX4_tell_79 : decode mX4_tell.2.1 79 = .ok (.aload_n 0, 1) := by decide +kernel
theorem dX4_tell_80 : decode mX4_tell.2.1 80 = .ok (.getfield 9, 3) := by decide +kernel
theorem dX4_tell_83 : decode mX4_tell.2.1 83 = .ok (.iload_n 2, 1) := by decide +kernel
theorem dX4_tell_84 : decode mX4_tell.2.1 84 = .ok (.iastore, 1) := by decide +kernel
theorem dX4_tell_85 : decode mX4_tell.2.1 85 = .ok (.aload_n 3, 1) := by decide +kernel
theorem dX4_tell_86 : decode mX4_tell.2.1 86 = .ok (.iconst 0, 1) := by decide +kernel
theorem dX4_tell_87 : decode mX4_tell.2.1 87 = .ok (.aload_n 0, 1) := by decide +kernel
theorem dX4_tell_88 : decode mX4_tell.2.1 88 = .ok (.getfield 22, 3) := by decide +kernel
theorem dX4_tell_91 : decode mX4_tell.2.1 91 = .ok (.aload_n 0, 1) := by decide +kernel
theorem dX4_tell_92 : decode mX4_tell.2.1 92 = .ok (.getfield 9, 3) := by decide +kernel
theorem dX4_tell_95 : decode mX4_tell.2.1 95 = .ok (.iconst 4, 1) := by decide +kernel
theorem dX4_tell_96 : decode mX4_tell.2.1 96 = .ok (.imul, 1) := by decide +kernel
theorem dX4_tell_97 : decode mX4_tell.2.1 97 = .ok (.iconst 4, 1) := by decide +kernel
theorem dX4_tell_98 : decode mX4_tell.2.1 98 = .ok (.invokestatic 26, 3) := by decide +kernel
theorem dX4_tell_101 : decode mX4_tell.2.1 101 = .ok (.aload_n 0, 1) := by decide +kernel
theorem dX4_tell_102 : decode mX4_tell.2.1 102 = .ok (.dup, 1) := by decide +kernel
theorem dX4_tell_103 : decode mX4_tell.2.1 103 = .ok (.getfield 9, 3) := by decide +kernel
theorem dX4_tell_106 : decode mX4_tell.2.1 106 = .ok (.iconst 1, 1) := by decide +kernel
theorem dX4_tell_107 : decode mX4_tell.2.1 107 = .ok (.iadd, 1) := by decide +kernel
theorem dX4_tell_108 : decode mX4_tell.2.1 108 = .ok (.putfield 9, 3) := by decide +kernel
theorem dX4_tell_111 : decode mX4_tell.2.1 111 = .ok (.return_, 1) := by decide +kernel
theorem dX5_ask_0 : decode mX5_ask.2.1 0 = .ok (.iconst 0, 1) := by decide +kernel
theorem dX5_ask_1 : decode mX5_ask.2.1 1 = .ok (.istore 5, 2) := by decide +kernel
theorem dX5_ask_3 : decode mX5_ask.2.1 3 = .ok (.iconst 0, 1) := by decide +kernel
theorem dX5_ask_4 : decode mX5_ask.2.1 4 = .ok (.istore 6, 2) := by decide +kernel
theorem dX5_ask_6 : decode mX5_ask.2.1 6 = .ok (.aload_n 0, 1) := by decide +kernel
theorem dX5_ask_7 : decode mX5_ask.2.1 7 = .ok (.getfield 18, 3) := by decide +kernel
theorem dX5_ask_10 : decode mX5_ask.2.1 10 = .ok (.lconst 0, 1) := by decide +kernel
theorem dX5_ask_11 : decode mX5_ask.2.1 11 = .ok (.invokestatic 92, 3) := by decide +kernel
theorem dX5_ask_14 : decode mX5_ask.2.1 14 = .ok (.iload_n 3, 1) := by decide +kernel
theorem dX5_ask_15 : decode mX5_ask.2.1 15 = .ok (.istore 7, 2) := by decide +kernel
theorem dX5_ask_17 : decode mX5_ask.2.1 17 = .ok (.iload 7, 2) := by decide +kernel
theorem dX5_ask_19 : decode mX5_ask.2.1 19 = .ok (.iload_n 3, 1) := by decide +kernel
theorem dX5_ask_20 : decode mX5_ask.2.1 20 = .ok (.iload 4, 2) := by decide +kernel
theorem dX5_ask_22 : decode mX5_ask.2.1 22 = .ok (.iadd, 1) := by decide +kernel
theorem dX5_ask_23 : decode mX5_ask.2.1 23 = .ok (.if_icmp .ge 68, 3) := by decide +kernel
theorem dX5_ask_26 : decode mX5_ask.2.1 26 = .ok (.aload_n 1, 1) := by decide +kernel
theorem dX5_ask_27 : decode mX5_ask.2.1 27 = .ok (.iload_n 2, 1) := by decide +kernel
theorem dX5_ask_28 : decode mX5_ask.2.1 28 = .ok (.iload 7, 2) := by decide +kernel
theorem dX5_ask_30 : decode mX5_ask.2.1 30 = .ok (.invokevirtual 85, 3) := by decide +kernel
theorem dX5_ask_33 : decode mX5_ask.2.1 33 = .ok (.istore 8, 2) := by decide +kernel
theorem dX5_ask_35 : decode mX5_ask.2.1 35 = .ok (.aload_n 0, 1) := by decide +kernel
theorem dX5_ask_36 : decode mX5_ask.2.1 36 = .ok (.getfield 18, 3) := by decide +kernel
theorem dX5_ask_39 : decode mX5_ask.2.1 39 = .ok (.iload 8, 2) := by decide +kernel
theorem dX5_ask_41 : decode mX5_ask.2.1 41 = .ok (.bipush 6, 2) := by decide +kernel
theorem dX5_ask_43 : decode mX5_ask.2.1 43 = .ok (.ishr, 1) := by decide +kernel
theorem dX5_ask_44 : decode mX5_ask.2.1 44 = .ok (.dup2, 1) := by decide +kernel
theorem dX5_ask_45 : decode mX5_ask.2.1 45 = .ok (.laload, 1) := by decide +kernel
theorem dX5_ask_46 : decode mX5_ask.2.1 46 = .ok (.lconst 1, 1) := by decide +kernel
theorem dX5_ask_47 : decode mX5_ask.2.1 47 = .ok (.iload 8, 2) := by decide +kernel
theorem dX5_ask_49 : decode mX5_ask.2.1 49 = .ok (.bipush 63, 2) := by decide +kernel
theorem dX5_ask_51 : decode mX5_ask.2.1 51 = .ok (.iand, 1) := by decide +kernel
theorem dX5_ask_52 : decode mX5_ask.2.1 52 = .ok (.lshl, 1) := by decide +kernel
theorem dX5_ask_53 : decode mX5_ask.2.1 53 = .ok (.lor, 1) := by decide +kernel
theorem dX5_ask_54 : decode mX5_ask.2.1 54 = .ok (.lastore, 1) := by decide +kernel
theorem dX5_ask_55 : decode mX5_ask.2.1 55 = .ok (.iload 5, 2) := by decide +kernel
theorem dX5_ask_57 : decode mX5_ask.2.1 57 = .ok (.aload_n 1, 1) := by decide +kernel
theorem dX5_ask_58 : decode mX5_ask.2.1 58 = .ok (.getfield 48, 3) := by decide +kernel
theorem dX5_ask_61 : decode mX5_ask.2.1 61 = .ok (.getfield 98, 3) := by decide +kernel
theorem dX5_ask_64 : decode mX5_ask.2.1 64 = .ok (.iload 8, 2) := by decide +kernel
theorem dX5_ask_66 : decode mX5_ask.2.1 66 = .ok (.iaload, 1) := by decide +kernel
theorem dX5_ask_67 : decode mX5_ask.2.1 67 = .ok (.ixor, 1) := by decide +kernel
theorem dX5_ask_68 : decode mX5_ask.2.1 68 = .ok (.istore 5, 2) := by decide +kernel
theorem dX5_ask_70 : decode mX5_ask.2.1 70 = .ok (.iload 6, 2) := by decide +kernel
theorem dX5_ask_72 : decode mX5_ask.2.1 72 = .ok (.aload_n 1, 1) := by decide +kernel
theorem dX5_ask_73 : decode mX5_ask.2.1 73 = .ok (.getfield 48, 3) := by decide +kernel
theorem dX5_ask_76 : decode mX5_ask.2.1 76 = .ok (.getfield 101, 3) := by decide +kernel
theorem dX5_ask_79 : decode mX5_ask.2.1 79 = .ok (.iload 8, 2) := by decide +kernel
theorem dX5_ask_81 : decode mX5_ask.2.1 81 = .ok (.iaload, 1) := by decide +kernel
theorem dX5_ask_82 : decode mX5_ask.2.1 82 = .ok (.ixor, 1) := by decide +kernel
theorem dX5_ask_83 : decode mX5_ask.2.1 83 = .ok (.istore 6, 2) := by decide +kernel
theorem dX5_ask_85 : decode mX5_ask.2.1 85 = .ok (.iinc 7 1, 3) := by decide +kernel
theorem dX5_ask_88 : decode mX5_ask.2.1 88 = .ok (.goto (-71), 3) := by decide +kernel
theorem dX5_ask_91 : decode mX5_ask.2.1 91 = .ok (.aload_n 1, 1) := by decide +kernel
theorem dX5_ask_92 : decode mX5_ask.2.1 92 = .ok (.getfield 104, 3) := by decide +kernel
theorem dX5_ask_95 : decode mX5_ask.2.1 95 = .ok (.iload 5, 2) := by decide +kernel
theorem dX5_ask_97 : decode mX5_ask.2.1 97 = .ok (.iload_n 2, 1) := by decide +kernel
theorem dX5_ask_98 : decode mX5_ask.2.1 98 = .ok (.aload_n 0, 1) := by decide +kernel
theorem dX5_ask_99 : decode mX5_ask.2.1 99 = .ok (.getfield 18, 3) := by decide +kernel
theorem dX5_ask_102 : decode mX5_ask.2.1 102 = .ok (.invokevirtual 108, 3) := by decide +kernel
theorem dX5_ask_105 : decode mX5_ask.2.1 105 = .ok (.iload 5, 2) := by decide +kernel
theorem dX5_ask_107 : decode mX5_ask.2.1 107 = .ok (.iload 6, 2) := by decide +kernel
theorem dX5_ask_109 : decode mX5_ask.2.1 109 = .ok (.if_icmp .eq 7, 3) := by decide +kernel
theorem dX5_ask_112 : decode mX5_ask.2.1 112 = .ok (.iconst 1, 1) := by decide +kernel
theorem dX5_ask_113 : decode mX5_ask.2.1 113 = .ok (.goto 4, 3) := by decide +kernel
theorem dX5_ask_116 : decode mX5_ask.2.1 116 = .ok (.iconst 0, 1) := by decide +kernel
theorem dX5_ask_117 : decode mX5_ask.2.1 117 = .ok (.ireturn, 1) := by decide +kernel
theorem dX5_askEight_0 : decode mX5_askEight.2.1 0 = .ok (.iconst 0, 1) := by decide +kernel
theorem dX5_askEight_1 : decode mX5_askEight.2.1 1 = .ok (.istore 4, 2) := by decide +kernel
theorem dX5_askEight_3 : decode mX5_askEight.2.1 3 = .ok (.iconst 0, 1) := by decide +kernel
theorem dX5_askEight_4 : decode mX5_askEight.2.1 4 = .ok (.istore 5, 2) := by decide +kernel
theorem dX5_askEight_6 : decode mX5_askEight.2.1 6 = .ok (.aload_n 0, 1) := by decide +kernel
theorem dX5_askEight_7 : decode mX5_askEight.2.1 7 = .ok (.getfield 18, 3) := by decide +kernel
theorem dX5_askEight_10 : decode mX5_askEight.2.1 10 = .ok (.lconst 0, 1) := by decide +kernel
theorem dX5_askEight_11 : decode mX5_askEight.2.1 11 = .ok (.invokestatic 92, 3) := by decide +kernel
theorem dX5_askEight_14 : decode mX5_askEight.2.1 14 = .ok (.iconst 0, 1) := by decide +kernel
theorem dX5_askEight_15 : decode mX5_askEight.2.1 15 = .ok (.istore 6, 2) := by decide +kernel
theorem dX5_askEight_17 : decode mX5_askEight.2.1 17 = .ok (.iload 6, 2) := by decide +kernel
theorem dX5_askEight_19 : decode mX5_askEight.2.1 19 = .ok (.bipush 8, 2) := by decide +kernel
theorem dX5_askEight_21 : decode mX5_askEight.2.1 21 = .ok (.if_icmp .ge 85, 3) := by decide +kernel
theorem dX5_askEight_24 : decode mX5_askEight.2.1 24 = .ok (.iload_n 2, 1) := by decide +kernel
theorem dX5_askEight_25 : decode mX5_askEight.2.1 25 = .ok (.iload 6, 2) := by decide +kernel
theorem dX5_askEight_27 : decode mX5_askEight.2.1 27 = .ok (.iadd, 1) := by decide +kernel
theorem dX5_askEight_28 : decode mX5_askEight.2.1 28 = .ok (.istore 7, 2) := by decide +kernel
theorem dX5_askEight_30 : decode mX5_askEight.2.1 30 = .ok (.iload 6, 2) := by decide +kernel
theorem dX5_askEight_32 : decode mX5_askEight.2.1 32 = .ok (.iload_n 3, 1) := by decide +kernel
theorem dX5_askEight_33 : decode mX5_askEight.2.1 33 = .ok (.iand, 1) := by decide +kernel
theorem dX5_askEight_34 : decode mX5_askEight.2.1 34 = .ok (.iload_n 3, 1) := by decide +kernel
theorem dX5_askEight_35 : decode mX5_askEight.2.1 35 = .ok (.if_icmp .ne 65, 3) := by decide +kernel
theorem dX5_askEight_38 : decode mX5_askEight.2.1 38 = .ok (.aload_n 1, 1) := by decide +kernel
theorem dX5_askEight_39 : decode mX5_askEight.2.1 39 = .ok (.getfield 48, 3) := by decide +kernel
theorem dX5_askEight_42 : decode mX5_askEight.2.1 42 = .ok (.iload 7, 2) := by decide +kernel
theorem dX5_askEight_44 : decode mX5_askEight.2.1 44 = .ok (.invokevirtual 124, 3) := by decide +kernel
theorem dX5_askEight_47 : decode mX5_askEight.2.1 47 = .ok (.ifCond .eq 53, 3) := by decide +kernel
theorem dX5_askEight_50 : decode mX5_askEight.2.1 50 = .ok (.aload_n 0, 1) := by decide +kernel
theorem dX5_askEight_51 : decode mX5_askEight.2.1 51 = .ok (.getfield 18, 3) := by decide +kernel
theorem dX5_askEight_54 : decode mX5_askEight.2.1 54 = .ok (.iload 7, 2) := by decide +kernel
theorem dX5_askEight_56 : decode mX5_askEight.2.1 56 = .ok (.bipush 6, 2) := by decide +kernel
theorem dX5_askEight_58 : decode mX5_askEight.2.1 58 = .ok (.ishr, 1) := by decide +kernel
theorem dX5_askEight_59 : decode mX5_askEight.2.1 59 = .ok (.dup2, 1) := by decide +kernel
theorem dX5_askEight_60 : decode mX5_askEight.2.1 60 = .ok (.laload, 1) := by decide +kernel
theorem dX5_askEight_61 : decode mX5_askEight.2.1 61 = .ok (.lconst 1, 1) := by decide +kernel
theorem dX5_askEight_62 : decode mX5_askEight.2.1 62 = .ok (.iload 7, 2) := by decide +kernel
theorem dX5_askEight_64 : decode mX5_askEight.2.1 64 = .ok (.bipush 63, 2) := by decide +kernel
theorem dX5_askEight_66 : decode mX5_askEight.2.1 66 = .ok (.iand, 1) := by decide +kernel
theorem dX5_askEight_67 : decode mX5_askEight.2.1 67 = .ok (.lshl, 1) := by decide +kernel
theorem dX5_askEight_68 : decode mX5_askEight.2.1 68 = .ok (.lor, 1) := by decide +kernel
theorem dX5_askEight_69 : decode mX5_askEight.2.1 69 = .ok (.lastore, 1) := by decide +kernel
theorem dX5_askEight_70 : decode mX5_askEight.2.1 70 = .ok (.iload 4, 2) := by decide +kernel
theorem dX5_askEight_72 : decode mX5_askEight.2.1 72 = .ok (.aload_n 1, 1) := by decide +kernel
theorem dX5_askEight_73 : decode mX5_askEight.2.1 73 = .ok (.getfield 48, 3) := by decide +kernel
theorem dX5_askEight_76 : decode mX5_askEight.2.1 76 = .ok (.getfield 98, 3) := by decide +kernel
theorem dX5_askEight_79 : decode mX5_askEight.2.1 79 = .ok (.iload 7, 2) := by decide +kernel
theorem dX5_askEight_81 : decode mX5_askEight.2.1 81 = .ok (.iaload, 1) := by decide +kernel
theorem dX5_askEight_82 : decode mX5_askEight.2.1 82 = .ok (.ixor, 1) := by decide +kernel
theorem dX5_askEight_83 : decode mX5_askEight.2.1 83 = .ok (.istore 4, 2) := by decide +kernel
theorem dX5_askEight_85 : decode mX5_askEight.2.1 85 = .ok (.iload 5, 2) := by decide +kernel
theorem dX5_askEight_87 : decode mX5_askEight.2.1 87 = .ok (.aload_n 1, 1) := by decide +kernel
theorem dX5_askEight_88 : decode mX5_askEight.2.1 88 = .ok (.getfield 48, 3) := by decide +kernel
theorem dX5_askEight_91 : decode mX5_askEight.2.1 91 = .ok (.getfield 101, 3) := by decide +kernel
theorem dX5_askEight_94 : decode mX5_askEight.2.1 94 = .ok (.iload 7, 2) := by decide +kernel
theorem dX5_askEight_96 : decode mX5_askEight.2.1 96 = .ok (.iaload, 1) := by decide +kernel
theorem dX5_askEight_97 : decode mX5_askEight.2.1 97 = .ok (.ixor, 1) := by decide +kernel
theorem dX5_askEight_98 : decode mX5_askEight.2.1 98 = .ok (.istore 5, 2) := by decide +kernel
theorem dX5_askEight_100 : decode mX5_askEight.2.1 100 = .ok (.iinc 6 1, 3) := by decide +kernel
theorem dX5_askEight_103 : decode mX5_askEight.2.1 103 = .ok (.goto (-86), 3) := by decide +kernel
theorem dX5_askEight_106 : decode mX5_askEight.2.1 106 = .ok (.aload_n 1, 1) := by decide +kernel
theorem dX5_askEight_107 : decode mX5_askEight.2.1 107 = .ok (.getfield 104, 3) := by decide +kernel
theorem dX5_askEight_110 : decode mX5_askEight.2.1 110 = .ok (.iload 4, 2) := by decide +kernel
theorem dX5_askEight_112 : decode mX5_askEight.2.1 112 = .ok (.bipush (-2), 2) := by decide +kernel
theorem dX5_askEight_114 : decode mX5_askEight.2.1 114 = .ok (.aload_n 0, 1) := by decide +kernel
theorem dX5_askEight_115 : decode mX5_askEight.2.1 115 = .ok (.getfield 18, 3) := by decide +kernel
theorem dX5_askEight_118 : decode mX5_askEight.2.1 118 = .ok (.invokevirtual 108, 3) := by decide +kernel
theorem dX5_askEight_121 : decode mX5_askEight.2.1 121 = .ok (.iload 4, 2) := by decide +kernel
theorem dX5_askEight_123 : decode mX5_askEight.2.1 123 = .ok (.iload 5, 2) := by decide +kernel
theorem dX5_askEight_125 : decode mX5_askEight.2.1 125 = .ok (.if_icmp .eq 7, 3) := by decide +kernel
theorem dX5_askEight_128 : decode mX5_askEight.2.1 128 = .ok (.iconst 1, 1) := by decide +kernel
theorem dX5_askEight_129 : decode mX5_askEight.2.1 129 = .ok (.goto 4, 3) := by decide +kernel
theorem dX5_askEight_132 : decode mX5_askEight.2.1 132 = .ok (.iconst 0, 1) := by decide +kernel
theorem dX5_askEight_133 : decode mX5_askEight.2.1 133 = .ok (.ireturn, 1) := by decide +kernel
theorem dX5_halve_0 : decode mX5_halve.2.1 0 = .ok (.aload_n 1, 1) := by decide +kernel
theorem dX5_halve_1 : decode mX5_halve.2.1 1 = .ok (.getfield 48, 3) := by decide +kernel
theorem dX5_halve_4 : decode mX5_halve.2.1 4 = .ok (.getfield 52, 3) := by decide +kernel
theorem dX5_halve_7 : decode mX5_halve.2.1 7 = .ok (.aload_n 0, 1) := by decide +kernel
theorem dX5_halve_8 : decode mX5_halve.2.1 8 = .ok (.getfield 22, 3) := by decide +kernel
theorem dX5_halve_11 : decode mX5_halve.2.1 11 = .ok (.iload_n 2, 1) := by decide +kernel
theorem dX5_halve_12 : decode mX5_halve.2.1 12 = .ok (.ishl, 1) := by decide +kernel
theorem dX5_halve_13 : decode mX5_halve.2.1 13 = .ok (.iload_n 3, 1) := by decide +kernel
theorem dX5_halve_14 : decode mX5_halve.2.1 14 = .ok (.invokestatic 61, 3) := by decide +kernel
theorem dX5_halve_17 : decode mX5_halve.2.1 17 = .ok (.istore 4, 2) := by decide +kernel
theorem dX5_halve_19 : decode mX5_halve.2.1 19 = .ok (.iload_n 3, 1) := by decide +kernel
theorem dX5_halve_20 : decode mX5_halve.2.1 20 = .ok (.aload_n 0, 1) := by decide +kernel
theorem dX5_halve_21 : decode mX5_halve.2.1 21 = .ok (.getfield 22, 3) := by decide +kernel
theorem dX5_halve_24 : decode mX5_halve.2.1 24 = .ok (.iload_n 2, 1) := by decide +kernel
theorem dX5_halve_25 : decode mX5_halve.2.1 25 = .ok (.ishl, 1) := by decide +kernel
theorem dX5_halve_26 : decode mX5_halve.2.1 26 = .ok (.imul, 1) := by decide +kernel
theorem dX5_halve_27 : decode mX5_halve.2.1 27 = .ok (.istore 5, 2) := by decide +kernel
theorem dX5_halve_29 : decode mX5_halve.2.1 29 = .ok (.iconst 0, 1) := by decide +kernel
theorem dX5_halve_30 : decode mX5_halve.2.1 30 = .ok (.istore 6, 2) := by decide +kernel
theorem dX5_halve_32 : decode mX5_halve.2.1 32 = .ok (.iload 6, 2) := by decide +kernel
theorem dX5_halve_34 : decode mX5_halve.2.1 34 = .ok (.sipush 256, 3) := by decide +kernel
theorem dX5_halve_37 : decode mX5_halve.2.1 37 = .ok (.if_icmp .ge 55, 3) := by decide +kernel
theorem dX5_halve_40 : decode mX5_halve.2.1 40 = .ok (.iload 4, 2) := by decide +kernel
theorem dX5_halve_42 : decode mX5_halve.2.1 42 = .ok (.iconst 1, 1) := by decide +kernel
theorem dX5_halve_43 : decode mX5_halve.2.1 43 = .ok (.if_icmp .le 49, 3) := by decide +kernel
theorem dX5_halve_46 : decode mX5_halve.2.1 46 = .ok (.iload 4, 2) := by decide +kernel
theorem dX5_halve_48 : decode mX5_halve.2.1 48 = .ok (.iconst 2, 1) := by decide +kernel
theorem dX5_halve_49 : decode mX5_halve.2.1 49 = .ok (.idiv, 1) := by decide +kernel
theorem dX5_halve_50 : decode mX5_halve.2.1 50 = .ok (.istore 7, 2) := by decide +kernel
theorem dX5_halve_52 : decode mX5_halve.2.1 52 = .ok (.aload_n 0, 1) := by decide +kernel
theorem dX5_halve_53 : decode mX5_halve.2.1 53 = .ok (.aload_n 1, 1) := by decide +kernel
theorem dX5_halve_54 : decode mX5_halve.2.1 54 = .ok (.iload_n 2, 1) := by decide +kernel
theorem dX5_halve_55 : decode mX5_halve.2.1 55 = .ok (.iload 5, 2) := by decide +kernel
theorem dX5_halve_57 : decode mX5_halve.2.1 57 = .ok (.iload 7, 2) := by decide +kernel
theorem dX5_halve_59 : decode mX5_halve.2.1 59 = .ok (.invokevirtual 65, 3) := by decide +kernel
theorem dX5_halve_62 : decode mX5_halve.2.1 62 = .ok (.ifCond .eq 10, 3) := by decide +kernel
theorem dX5_halve_65 : decode mX5_halve.2.1 65 = .ok (.iload 7, 2) := by decide +kernel
theorem dX5_halve_67 : decode mX5_halve.2.1 67 = .ok (.istore 4, 2) := by decide +kernel
theorem dX5_halve_69 : decode mX5_halve.2.1 69 = .ok (.goto 17, 3) := by decide +kernel
theorem dX5_halve_72 : decode mX5_halve.2.1 72 = .ok (.iload 5, 2) := by decide +kernel
theorem dX5_halve_74 : decode mX5_halve.2.1 74 = .ok (.iload 7, 2) := by decide +kernel
theorem dX5_halve_76 : decode mX5_halve.2.1 76 = .ok (.iadd, 1) := by decide +kernel
theorem dX5_halve_77 : decode mX5_halve.2.1 77 = .ok (.istore 5, 2) := by decide +kernel
theorem dX5_halve_79 : decode mX5_halve.2.1 79 = .ok (.iload 4, 2) := by decide +kernel
theorem dX5_halve_81 : decode mX5_halve.2.1 81 = .ok (.iload 7, 2) := by decide +kernel
theorem dX5_halve_83 : decode mX5_halve.2.1 83 = .ok (.isub, 1) := by decide +kernel
theorem dX5_halve_84 : decode mX5_halve.2.1 84 = .ok (.istore 4, 2) := by decide +kernel
theorem dX5_halve_86 : decode mX5_halve.2.1 86 = .ok (.iinc 6 1, 3) := by decide +kernel
theorem dX5_halve_89 : decode mX5_halve.2.1 89 = .ok (.goto (-57), 3) := by decide +kernel
theorem dX5_halve_92 : decode mX5_halve.2.1 92 = .ok (.aload_n 1, 1) := by decide +kernel
theorem dX5_halve_93 : decode mX5_halve.2.1 93 = .ok (.iload_n 2, 1) := by decide +kernel
theorem dX5_halve_94 : decode mX5_halve.2.1 94 = .ok (.iload 5, 2) := by decide +kernel
theorem dX5_halve_96 : decode mX5_halve.2.1 96 = .ok (.invokevirtual 85, 3) := by decide +kernel
theorem dX5_halve_99 : decode mX5_halve.2.1 99 = .ok (.istore 6, 2) := by decide +kernel
theorem dX5_halve_101 : decode mX5_halve.2.1 101 = .ok (.aload_n 1, 1) := by decide +kernel
theorem dX5_halve_102 : decode mX5_halve.2.1 102 = .ok (.getfield 48, 3) := by decide +kernel
theorem dX5_halve_105 : decode mX5_halve.2.1 105 = .ok (.iload 6, 2) := by decide +kernel
theorem dX5_halve_107 : decode mX5_halve.2.1 107 = .ok (.invokevirtual 114, 3) := by decide +kernel
theorem dX5_halve_110 : decode mX5_halve.2.1 110 = .ok (.aload_n 1, 1) := by decide +kernel
theorem dX5_halve_111 : decode mX5_halve.2.1 111 = .ok (.dup, 1) := by decide +kernel
theorem dX5_halve_112 : decode mX5_halve.2.1 112 = .ok (.getfield 37, 3) := by decide +kernel
theorem dX5_halve_115 : decode mX5_halve.2.1 115 = .ok (.iconst 1, 1) := by decide +kernel
theorem dX5_halve_116 : decode mX5_halve.2.1 116 = .ok (.iadd, 1) := by decide +kernel
theorem dX5_halve_117 : decode mX5_halve.2.1 117 = .ok (.putfield 37, 3) := by decide +kernel
theorem dX5_halve_120 : decode mX5_halve.2.1 120 = .ok (.iconst 0, 1) := by decide +kernel
theorem dX5_halve_121 : decode mX5_halve.2.1 121 = .ok (.istore 7, 2) := by decide +kernel
theorem dX5_halve_123 : decode mX5_halve.2.1 123 = .ok (.iload 7, 2) := by decide +kernel
theorem dX5_halve_125 : decode mX5_halve.2.1 125 = .ok (.aload_n 0, 1) := by decide +kernel
theorem dX5_halve_126 : decode mX5_halve.2.1 126 = .ok (.getfield 26, 3) := by decide +kernel
theorem dX5_halve_129 : decode mX5_halve.2.1 129 = .ok (.if_icmp .gt 39, 3) := by decide +kernel
theorem dX5_halve_132 : decode mX5_halve.2.1 132 = .ok (.aload_n 0, 1) := by decide +kernel
theorem dX5_halve_133 : decode mX5_halve.2.1 133 = .ok (.getfield 15, 3) := by decide +kernel
theorem dX5_halve_136 : decode mX5_halve.2.1 136 = .ok (.iload 7, 2) := by decide +kernel
theorem dX5_halve_138 : decode mX5_halve.2.1 138 = .ok (.sipush 128, 3) := by decide +kernel
theorem dX5_halve_141 : decode mX5_halve.2.1 141 = .ok (.imul, 1) := by decide +kernel
theorem dX5_halve_142 : decode mX5_halve.2.1 142 = .ok (.aload_n 0, 1) := by decide +kernel
theorem dX5_halve_143 : decode mX5_halve.2.1 143 = .ok (.getfield 9, 3) := by decide +kernel
theorem dX5_halve_146 : decode mX5_halve.2.1 146 = .ok (.iload 7, 2) := by decide +kernel
theorem dX5_halve_148 : decode mX5_halve.2.1 148 = .ok (.sipush 256, 3) := by decide +kernel
theorem dX5_halve_151 : decode mX5_halve.2.1 151 = .ok (.imul, 1) := by decide +kernel
theorem dX5_halve_152 : decode mX5_halve.2.1 152 = .ok (.iload 6, 2) := by decide +kernel
theorem dX5_halve_154 : decode mX5_halve.2.1 154 = .ok (.iadd, 1) := by decide +kernel
theorem dX5_halve_155 : decode mX5_halve.2.1 155 = .ok (.iaload, 1) := by decide +kernel
theorem dX5_halve_156 : decode mX5_halve.2.1 156 = .ok (.iadd, 1) := by decide +kernel
theorem dX5_halve_157 : decode mX5_halve.2.1 157 = .ok (.dup2, 1) := by decide +kernel
theorem dX5_halve_158 : decode mX5_halve.2.1 158 = .ok (.iaload, 1) := by decide +kernel
theorem dX5_halve_159 : decode mX5_halve.2.1 159 = .ok (.iconst 1, 1) := by decide +kernel
theorem dX5_halve_160 : decode mX5_halve.2.1 160 = .ok (.ixor, 1) := by decide +kernel
theorem dX5_halve_161 : decode mX5_halve.2.1 161 = .ok (.iastore, 1) := by decide +kernel
theorem dX5_halve_162 : decode mX5_halve.2.1 162 = .ok (.iinc 7 1, 3) := by decide +kernel
theorem dX5_halve_165 : decode mX5_halve.2.1 165 = .ok (.goto (-42), 3) := by decide +kernel
theorem dX5_halve_168 : decode mX5_halve.2.1 168 = .ok (.return_, 1) := by decide +kernel
theorem dX5_init_0 : decode mX5_init.2.1 0 = .ok (.aload_n 0, 1) := by decide +kernel
theorem dX5_init_1 : decode mX5_init.2.1 1 = .ok (.invokespecial 3, 3) := by decide +kernel
theorem dX5_init_4 : decode mX5_init.2.1 4 = .ok (.aload_n 0, 1) := by decide +kernel
theorem dX5_init_5 : decode mX5_init.2.1 5 = .ok (.sipush 1536, 3) := by decide +kernel
theorem dX5_init_8 : decode mX5_init.2.1 8 = .ok (.newarray .int, 2) := by decide +kernel
theorem dX5_init_10 : decode mX5_init.2.1 10 = .ok (.putfield 9, 3) := by decide +kernel
theorem dX5_init_13 : decode mX5_init.2.1 13 = .ok (.aload_n 0, 1) := by decide +kernel
theorem dX5_init_14 : decode mX5_init.2.1 14 = .ok (.sipush 768, 3) := by decide +kernel
theorem dX5_init_17 : decode mX5_init.2.1 17 = .ok (.newarray .int, 2) := by decide +kernel
theorem dX5_init_19 : decode mX5_init.2.1 19 = .ok (.putfield 15, 3) := by decide +kernel
theorem dX5_init_22 : decode mX5_init.2.1 22 = .ok (.aload_n 0, 1) := by decide +kernel
theorem dX5_init_23 : decode mX5_init.2.1 23 = .ok (.iconst 4, 1) := by decide +kernel
theorem dX5_init_24 : decode mX5_init.2.1 24 = .ok (.newarray .long, 2) := by decide +kernel
theorem dX5_init_26 : decode mX5_init.2.1 26 = .ok (.putfield 18, 3) := by decide +kernel
theorem dX5_init_29 : decode mX5_init.2.1 29 = .ok (.aload_n 0, 1) := by decide +kernel
theorem dX5_init_30 : decode mX5_init.2.1 30 = .ok (.iconst 0, 1) := by decide +kernel
theorem dX5_init_31 : decode mX5_init.2.1 31 = .ok (.putfield 22, 3) := by decide +kernel
theorem dX5_init_34 : decode mX5_init.2.1 34 = .ok (.aload_n 0, 1) := by decide +kernel
theorem dX5_init_35 : decode mX5_init.2.1 35 = .ok (.iconst 0, 1) := by decide +kernel
theorem dX5_init_36 : decode mX5_init.2.1 36 = .ok (.putfield 26, 3) := by decide +kernel
theorem dX5_init_39 : decode mX5_init.2.1 39 = .ok (.aload_n 0, 1) := by decide +kernel
theorem dX5_init_40 : decode mX5_init.2.1 40 = .ok (.iconst 0, 1) := by decide +kernel
theorem dX5_init_41 : decode mX5_init.2.1 41 = .ok (.putfield 29, 3) := by decide +kernel
theorem dX5_init_44 : decode mX5_init.2.1 44 = .ok (.return_, 1) := by decide +kernel
theorem dX5_mapBlocks_0 : decode mX5_mapBlocks.2.1 0 = .ok (.aload_n 0, 1) := by decide +kernel
theorem dX5_mapBlocks_1 : decode mX5_mapBlocks.2.1 1 = .ok (.getfield 22, 3) := by decide +kernel
theorem dX5_mapBlocks_4 : decode mX5_mapBlocks.2.1 4 = .ok (.iload_n 2, 1) := by decide +kernel
theorem dX5_mapBlocks_5 : decode mX5_mapBlocks.2.1 5 = .ok (.ishl, 1) := by decide +kernel
theorem dX5_mapBlocks_6 : decode mX5_mapBlocks.2.1 6 = .ok (.istore_n 3, 1) := by decide +kernel
theorem dX5_mapBlocks_7 : decode mX5_mapBlocks.2.1 7 = .ok (.sipush 128, 3) := by decide +kernel
theorem dX5_mapBlocks_10 : decode mX5_mapBlocks.2.1 10 = .ok (.aload_n 1, 1) := by decide +kernel
theorem dX5_mapBlocks_11 : decode mX5_mapBlocks.2.1 11 = .ok (.getfield 48, 3) := by decide +kernel
theorem dX5_mapBlocks_14 : decode mX5_mapBlocks.2.1 14 = .ok (.getfield 52, 3) := by decide +kernel
theorem dX5_mapBlocks_17 : decode mX5_mapBlocks.2.1 17 = .ok (.iload_n 3, 1) := by decide +kernel
theorem dX5_mapBlocks_18 : decode mX5_mapBlocks.2.1 18 = .ok (.invokestatic 57, 3) := by decide +kernel
theorem dX5_mapBlocks_21 : decode mX5_mapBlocks.2.1 21 = .ok (.invokestatic 80, 3) := by decide +kernel
theorem dX5_mapBlocks_24 : decode mX5_mapBlocks.2.1 24 = .ok (.istore 4, 2) := by decide +kernel
theorem dX5_mapBlocks_26 : decode mX5_mapBlocks.2.1 26 = .ok (.iconst 0, 1) := by decide +kernel
theorem dX5_mapBlocks_27 : decode mX5_mapBlocks.2.1 27 = .ok (.istore 5, 2) := by decide +kernel
theorem dX5_mapBlocks_29 : decode mX5_mapBlocks.2.1 29 = .ok (.iload 5, 2) := by decide +kernel
theorem dX5_mapBlocks_31 : decode mX5_mapBlocks.2.1 31 = .ok (.iload 4, 2) := by decide +kernel
theorem dX5_mapBlocks_33 : decode mX5_mapBlocks.2.1 33 = .ok (.if_icmp .ge 119, 3) := by decide +kernel
theorem dX5_mapBlocks_36 : decode mX5_mapBlocks.2.1 36 = .ok (.aload_n 0, 1) := by decide +kernel
theorem dX5_mapBlocks_37 : decode mX5_mapBlocks.2.1 37 = .ok (.getfield 15, 3) := by decide +kernel
theorem dX5_mapBlocks_40 : decode mX5_mapBlocks.2.1 40 = .ok (.iload_n 2, 1) := by decide +kernel
theorem dX5_mapBlocks_41 : decode mX5_mapBlocks.2.1 41 = .ok (.sipush 128, 3) := by decide +kernel
theorem dX5_mapBlocks_44 : decode mX5_mapBlocks.2.1 44 = .ok (.imul, 1) := by decide +kernel
theorem dX5_mapBlocks_45 : decode mX5_mapBlocks.2.1 45 = .ok (.iload 5, 2) := by decide +kernel
theorem dX5_mapBlocks_47 : decode mX5_mapBlocks.2.1 47 = .ok (.iadd, 1) := by decide +kernel
theorem dX5_mapBlocks_48 : decode mX5_mapBlocks.2.1 48 = .ok (.iconst 0, 1) := by decide +kernel
theorem dX5_mapBlocks_49 : decode mX5_mapBlocks.2.1 49 = .ok (.iastore, 1) := by decide +kernel
theorem dX5_mapBlocks_50 : decode mX5_mapBlocks.2.1 50 = .ok (.iload 5, 2) := by decide +kernel
theorem dX5_mapBlocks_52 : decode mX5_mapBlocks.2.1 52 = .ok (.iload_n 3, 1) := by decide +kernel
theorem dX5_mapBlocks_53 : decode mX5_mapBlocks.2.1 53 = .ok (.imul, 1) := by decide +kernel
theorem dX5_mapBlocks_54 : decode mX5_mapBlocks.2.1 54 = .ok (.aload_n 1, 1) := by decide +kernel
theorem dX5_mapBlocks_55 : decode mX5_mapBlocks.2.1 55 = .ok (.getfield 48, 3) := by decide +kernel
theorem dX5_mapBlocks_58 : decode mX5_mapBlocks.2.1 58 = .ok (.getfield 52, 3) := by decide +kernel
theorem dX5_mapBlocks_61 : decode mX5_mapBlocks.2.1 61 = .ok (.iload_n 3, 1) := by decide +kernel
theorem dX5_mapBlocks_62 : decode mX5_mapBlocks.2.1 62 = .ok (.iload 5, 2) := by decide +kernel
theorem dX5_mapBlocks_64 : decode mX5_mapBlocks.2.1 64 = .ok (.invokestatic 61, 3) := by decide +kernel
theorem dX5_mapBlocks_67 : decode mX5_mapBlocks.2.1 67 = .ok (.iadd, 1) := by decide +kernel
theorem dX5_mapBlocks_68 : decode mX5_mapBlocks.2.1 68 = .ok (.istore 6, 2) := by decide +kernel
theorem dX5_mapBlocks_70 : decode mX5_mapBlocks.2.1 70 = .ok (.iload 5, 2) := by decide +kernel
theorem dX5_mapBlocks_72 : decode mX5_mapBlocks.2.1 72 = .ok (.iload_n 3, 1) := by decide +kernel
theorem dX5_mapBlocks_73 : decode mX5_mapBlocks.2.1 73 = .ok (.imul, 1) := by decide +kernel
theorem dX5_mapBlocks_74 : decode mX5_mapBlocks.2.1 74 = .ok (.istore 7, 2) := by decide +kernel
theorem dX5_mapBlocks_76 : decode mX5_mapBlocks.2.1 76 = .ok (.iload 7, 2) := by decide +kernel
theorem dX5_mapBlocks_78 : decode mX5_mapBlocks.2.1 78 = .ok (.iload 6, 2) := by decide +kernel
theorem dX5_mapBlocks_80 : decode mX5_mapBlocks.2.1 80 = .ok (.if_icmp .ge 66, 3) := by decide +kernel
theorem dX5_mapBlocks_83 : decode mX5_mapBlocks.2.1 83 = .ok (.aload_n 1, 1) := by decide +kernel
theorem dX5_mapBlocks_84 : decode mX5_mapBlocks.2.1 84 = .ok (.iload_n 2, 1) := by decide +kernel
theorem dX5_mapBlocks_85 : decode mX5_mapBlocks.2.1 85 = .ok (.iload 7, 2) := by decide +kernel
theorem dX5_mapBlocks_87 : decode mX5_mapBlocks.2.1 87 = .ok (.invokevirtual 85, 3) := by decide +kernel
theorem dX5_mapBlocks_90 : decode mX5_mapBlocks.2.1 90 = .ok (.istore 8, 2) := by decide +kernel
theorem dX5_mapBlocks_92 : decode mX5_mapBlocks.2.1 92 = .ok (.aload_n 0, 1) := by decide +kernel
theorem dX5_mapBlocks_93 : decode mX5_mapBlocks.2.1 93 = .ok (.getfield 9, 3) := by decide +kernel
theorem dX5_mapBlocks_96 : decode mX5_mapBlocks.2.1 96 = .ok (.iload_n 2, 1) := by decide +kernel
theorem dX5_mapBlocks_97 : decode mX5_mapBlocks.2.1 97 = .ok (.sipush 256, 3) := by decide +kernel
theorem dX5_mapBlocks_100 : decode mX5_mapBlocks.2.1 100 = .ok (.imul, 1) := by decide +kernel
theorem dX5_mapBlocks_101 : decode mX5_mapBlocks.2.1 101 = .ok (.iload 8, 2) := by decide +kernel
theorem dX5_mapBlocks_103 : decode mX5_mapBlocks.2.1 103 = .ok (.iadd, 1) := by decide +kernel
theorem dX5_mapBlocks_104 : decode mX5_mapBlocks.2.1 104 = .ok (.iload 5, 2) := by decide +kernel
theorem dX5_mapBlocks_106 : decode mX5_mapBlocks.2.1 106 = .ok (.iastore, 1) := by decide +kernel
theorem dX5_mapBlocks_107 : decode mX5_mapBlocks.2.1 107 = .ok (.aload_n 0, 1) := by decide +kernel
theorem dX5_mapBlocks_108 : decode mX5_mapBlocks.2.1 108 = .ok (.getfield 15, 3) := by decide +kernel
theorem dX5_mapBlocks_111 : decode mX5_mapBlocks.2.1 111 = .ok (.iload_n 2, 1) := by decide +kernel
theorem dX5_mapBlocks_112 : decode mX5_mapBlocks.2.1 112 = .ok (.sipush 128, 3) := by decide +kernel
theorem dX5_mapBlocks_115 : decode mX5_mapBlocks.2.1 115 = .ok (.imul, 1) := by decide +kernel
theorem dX5_mapBlocks_116 : decode mX5_mapBlocks.2.1 116 = .ok (.iload 5, 2) := by decide +kernel
theorem dX5_mapBlocks_118 : decode mX5_mapBlocks.2.1 118 = .ok (.iadd, 1) := by decide +kernel
theorem dX5_mapBlocks_119 : decode mX5_mapBlocks.2.1 119 = .ok (.dup2, 1) := by decide +kernel
theorem dX5_mapBlocks_120 : decode mX5_mapBlocks.2.1 120 = .ok (.iaload, 1) := by decide +kernel
theorem dX5_mapBlocks_121 : decode mX5_mapBlocks.2.1 121 = .ok (.aload_n 1, 1) := by decide +kernel
theorem dX5_mapBlocks_122 : decode mX5_mapBlocks.2.1 122 = .ok (.getfield 48, 3) := by decide +kernel
theorem dX5_mapBlocks_125 : decode mX5_mapBlocks.2.1 125 = .ok (.iload 8, 2) := by decide +kernel
theorem dX5_mapBlocks_127 : decode mX5_mapBlocks.2.1 127 = .ok (.invokevirtual 88, 3) := by decide +kernel
theorem dX5_mapBlocks_130 : decode mX5_mapBlocks.2.1 130 = .ok (.ifCond .eq 7, 3) := by decide +kernel
theorem dX5_mapBlocks_133 : decode mX5_mapBlocks.2.1 133 = .ok (.iconst 1, 1) := by decide +kernel
theorem dX5_mapBlocks_134 : decode mX5_mapBlocks.2.1 134 = .ok (.goto 4, 3) := by decide +kernel
theorem dX5_mapBlocks_137 : decode mX5_mapBlocks.2.1 137 = .ok (.iconst 0, 1) := by decide +kernel
theorem dX5_mapBlocks_138 : decode mX5_mapBlocks.2.1 138 = .ok (.ixor, 1) := by decide +kernel
theorem dX5_mapBlocks_139 : decode mX5_mapBlocks.2.1 139 = .ok (.iastore, 1) := by decide +kernel
theorem dX5_mapBlocks_140 : decode mX5_mapBlocks.2.1 140 = .ok (.iinc 7 1, 3) := by decide +kernel
theorem dX5_mapBlocks_143 : decode mX5_mapBlocks.2.1 143 = .ok (.goto (-67), 3) := by decide +kernel
theorem dX5_mapBlocks_146 : decode mX5_mapBlocks.2.1 146 = .ok (.iinc 5 1, 3) := by decide +kernel
theorem dX5_mapBlocks_149 : decode mX5_mapBlocks.2.1 149 = .ok (.goto (-120), 3) := by decide +kernel
theorem dX5_mapBlocks_152 : decode mX5_mapBlocks.2.1 152 = .ok (.return_, 1) := by decide +kernel
theorem dX5_runPass_0 : decode mX5_runPass.2.1 0 = .ok (.aload_n 1, 1) := by decide +kernel
theorem dX5_runPass_1 : decode mX5_runPass.2.1 1 = .ok (.getfield 32, 3) := by decide +kernel
theorem dX5_runPass_4 : decode mX5_runPass.2.1 4 = .ok (.bipush 6, 2) := by decide +kernel
theorem dX5_runPass_6 : decode mX5_runPass.2.1 6 = .ok (.if_icmp .lt 5, 3) := by decide +kernel
theorem dX5_runPass_9 : decode mX5_runPass.2.1 9 = .ok (.iconst 0, 1) := by decide +kernel
theorem dX5_runPass_10 : decode mX5_runPass.2.1 10 = .ok (.ireturn, 1) := by decide +kernel
theorem dX5_runPass_11 : decode mX5_runPass.2.1 11 = .ok (.aload_n 1, 1) := by decide +kernel
theorem dX5_runPass_12 : decode mX5_runPass.2.1 12 = .ok (.getfield 37, 3) := by decide +kernel
theorem dX5_runPass_15 : decode mX5_runPass.2.1 15 = .ok (.istore_n 3, 1) := by decide +kernel
theorem dX5_runPass_16 : decode mX5_runPass.2.1 16 = .ok (.aload_n 0, 1) := by decide +kernel
theorem dX5_runPass_17 : decode mX5_runPass.2.1 17 = .ok (.iload_n 2, 1) := by decide +kernel
theorem dX5_runPass_18 : decode mX5_runPass.2.1 18 = .ok (.putfield 22, 3) := by decide +kernel
theorem dX5_runPass_21 : decode mX5_runPass.2.1 21 = .ok (.aload_n 0, 1) := by decide +kernel
theorem dX5_runPass_22 : decode mX5_runPass.2.1 22 = .ok (.aload_n 1, 1) := by decide +kernel
theorem dX5_runPass_23 : decode mX5_runPass.2.1 23 = .ok (.getfield 32, 3) := by decide +kernel
theorem dX5_runPass_26 : decode mX5_runPass.2.1 26 = .ok (.putfield 26, 3) := by decide +kernel
theorem dX5_runPass_29 : decode mX5_runPass.2.1 29 = .ok (.aload_n 1, 1) := by decide +kernel
theorem dX5_runPass_30 : decode mX5_runPass.2.1 30 = .ok (.aload_n 0, 1) := by decide +kernel
theorem dX5_runPass_31 : decode mX5_runPass.2.1 31 = .ok (.getfield 26, 3) := by decide +kernel
theorem dX5_runPass_34 : decode mX5_runPass.2.1 34 = .ok (.invokevirtual 40, 3) := by decide +kernel
theorem dX5_runPass_37 : decode mX5_runPass.2.1 37 = .ok (.iconst 0, 1) := by decide +kernel
theorem dX5_runPass_38 : decode mX5_runPass.2.1 38 = .ok (.istore 4, 2) := by decide +kernel
theorem dX5_runPass_40 : decode mX5_runPass.2.1 40 = .ok (.iload 4, 2) := by decide +kernel
theorem dX5_runPass_42 : decode mX5_runPass.2.1 42 = .ok (.aload_n 0, 1) := by decide +kernel
theorem dX5_runPass_43 : decode mX5_runPass.2.1 43 = .ok (.getfield 26, 3) := by decide +kernel
theorem dX5_runPass_46 : decode mX5_runPass.2.1 46 = .ok (.if_icmp .gt 16, 3) := by decide +kernel
theorem dX5_runPass_49 : decode mX5_runPass.2.1 49 = .ok (.aload_n 0, 1) := by decide +kernel
theorem dX5_runPass_50 : decode mX5_runPass.2.1 50 = .ok (.aload_n 1, 1) := by decide +kernel
theorem dX5_runPass_51 : decode mX5_runPass.2.1 51 = .ok (.iload 4, 2) := by decide +kernel
theorem dX5_runPass_53 : decode mX5_runPass.2.1 53 = .ok (.invokevirtual 44, 3) := by decide +kernel
theorem dX5_runPass_56 : decode mX5_runPass.2.1 56 = .ok (.iinc 4 1, 3) := by decide +kernel
theorem dX5_runPass_59 : decode mX5_runPass.2.1 59 = .ok (.goto (-19), 3) := by decide +kernel
theorem dX5_runPass_62 : decode mX5_runPass.2.1 62 = .ok (.aload_n 1, 1) := by decide +kernel
theorem dX5_runPass_63 : decode mX5_runPass.2.1 63 = .ok (.getfield 48, 3) := by decide +kernel
theorem dX5_runPass_66 : decode mX5_runPass.2.1 66 = .ok (.getfield 52, 3) := by decide +kernel
theorem dX5_runPass_69 : decode mX5_runPass.2.1 69 = .ok (.istore 4, 2) := by decide +kernel
theorem dX5_runPass_71 : decode mX5_runPass.2.1 71 = .ok (.iload 4, 2) := by decide +kernel
theorem dX5_runPass_73 : decode mX5_runPass.2.1 73 = .ok (.aload_n 0, 1) := by decide +kernel
theorem dX5_runPass_74 : decode mX5_runPass.2.1 74 = .ok (.getfield 22, 3) := by decide +kernel
theorem dX5_runPass_77 : decode mX5_runPass.2.1 77 = .ok (.aload_n 0, 1) := by decide +kernel
theorem dX5_runPass_78 : decode mX5_runPass.2.1 78 = .ok (.getfield 26, 3) := by decide +kernel
theorem dX5_runPass_81 : decode mX5_runPass.2.1 81 = .ok (.ishl, 1) := by decide +kernel
theorem dX5_runPass_82 : decode mX5_runPass.2.1 82 = .ok (.invokestatic 57, 3) := by decide +kernel
theorem dX5_runPass_85 : decode mX5_runPass.2.1 85 = .ok (.istore 5, 2) := by decide +kernel
theorem dX5_runPass_87 : decode mX5_runPass.2.1 87 = .ok (.iconst 0, 1) := by decide +kernel
theorem dX5_runPass_88 : decode mX5_runPass.2.1 88 = .ok (.istore 6, 2) := by decide +kernel
theorem dX5_runPass_90 : decode mX5_runPass.2.1 90 = .ok (.iload 6, 2) := by decide +kernel
theorem dX5_runPass_92 : decode mX5_runPass.2.1 92 = .ok (.iload 5, 2) := by decide +kernel
theorem dX5_runPass_94 : decode mX5_runPass.2.1 94 = .ok (.if_icmp .ge 130, 3) := by decide +kernel
theorem dX5_runPass_97 : decode mX5_runPass.2.1 97 = .ok (.aload_n 0, 1) := by decide +kernel
theorem dX5_runPass_98 : decode mX5_runPass.2.1 98 = .ok (.iload 6, 2) := by decide +kernel
theorem dX5_runPass_100 : decode mX5_runPass.2.1 100 = .ok (.iconst 1, 1) := by decide +kernel
theorem dX5_runPass_101 : decode mX5_runPass.2.1 101 = .ok (.iadd, 1) := by decide +kernel
theorem dX5_runPass_102 : decode mX5_runPass.2.1 102 = .ok (.putfield 29, 3) := by decide +kernel
theorem dX5_runPass_105 : decode mX5_runPass.2.1 105 = .ok (.iload 6, 2) := by decide +kernel
theorem dX5_runPass_107 : decode mX5_runPass.2.1 107 = .ok (.aload_n 0, 1) := by decide +kernel
theorem dX5_runPass_108 : decode mX5_runPass.2.1 108 = .ok (.getfield 22, 3) := by decide +kernel
theorem dX5_runPass_111 : decode mX5_runPass.2.1 111 = .ok (.aload_n 0, 1) := by decide +kernel
theorem dX5_runPass_112 : decode mX5_runPass.2.1 112 = .ok (.getfield 26, 3) := by decide +kernel
theorem dX5_runPass_115 : decode mX5_runPass.2.1 115 = .ok (.ishl, 1) := by decide +kernel
theorem dX5_runPass_116 : decode mX5_runPass.2.1 116 = .ok (.imul, 1) := by decide +kernel
theorem dX5_runPass_117 : decode mX5_runPass.2.1 117 = .ok (.istore 7, 2) := by decide +kernel
theorem dX5_runPass_119 : decode mX5_runPass.2.1 119 = .ok (.aload_n 0, 1) := by decide +kernel
theorem dX5_runPass_120 : decode mX5_runPass.2.1 120 = .ok (.aload_n 1, 1) := by decide +kernel
theorem dX5_runPass_121 : decode mX5_runPass.2.1 121 = .ok (.aload_n 0, 1) := by decide +kernel
theorem dX5_runPass_122 : decode mX5_runPass.2.1 122 = .ok (.getfield 26, 3) := by decide +kernel
theorem dX5_runPass_125 : decode mX5_runPass.2.1 125 = .ok (.iload 7, 2) := by decide +kernel
theorem dX5_runPass_127 : decode mX5_runPass.2.1 127 = .ok (.iload 4, 2) := by decide +kernel
theorem dX5_runPass_129 : decode mX5_runPass.2.1 129 = .ok (.aload_n 0, 1) := by decide +kernel
theorem dX5_runPass_130 : decode mX5_runPass.2.1 130 = .ok (.getfield 22, 3) := by decide +kernel
theorem dX5_runPass_133 : decode mX5_runPass.2.1 133 = .ok (.aload_n 0, 1) := by decide +kernel
theorem dX5_runPass_134 : decode mX5_runPass.2.1 134 = .ok (.getfield 26, 3) := by decide +kernel
theorem dX5_runPass_137 : decode mX5_runPass.2.1 137 = .ok (.ishl, 1) := by decide +kernel
theorem dX5_runPass_138 : decode mX5_runPass.2.1 138 = .ok (.iload 6, 2) := by decide +kernel
theorem dX5_runPass_140 : decode mX5_runPass.2.1 140 = .ok (.invokestatic 61, 3) := by decide +kernel
theorem dX5_runPass_143 : decode mX5_runPass.2.1 143 = .ok (.invokevirtual 65, 3) := by decide +kernel
theorem dX5_runPass_146 : decode mX5_runPass.2.1 146 = .ok (.istore 8, 2) := by decide +kernel
theorem dX5_runPass_148 : decode mX5_runPass.2.1 148 = .ok (.iload 8, 2) := by decide +kernel
theorem dX5_runPass_150 : decode mX5_runPass.2.1 150 = .ok (.ifCond .eq 17, 3) := by decide +kernel
theorem dX5_runPass_153 : decode mX5_runPass.2.1 153 = .ok (.aload_n 0, 1) := by decide +kernel
theorem dX5_runPass_154 : decode mX5_runPass.2.1 154 = .ok (.getfield 26, 3) := by decide +kernel
theorem dX5_runPass_157 : decode mX5_runPass.2.1 157 = .ok (.sipush 128, 3) := by decide +kernel
theorem dX5_runPass_160 : decode mX5_runPass.2.1 160 = .ok (.imul, 1) := by decide +kernel
theorem dX5_runPass_161 : decode mX5_runPass.2.1 161 = .ok (.iload 6, 2) := by decide +kernel
theorem dX5_runPass_163 : decode mX5_runPass.2.1 163 = .ok (.iadd, 1) := by decide +kernel
theorem dX5_runPass_164 : decode mX5_runPass.2.1 164 = .ok (.goto 4, 3) := by decide +kernel
theorem dX5_runPass_167 : decode mX5_runPass.2.1 167 = .ok (.iconst (-1), 1) := by decide +kernel
theorem dX5_runPass_168 : decode mX5_runPass.2.1 168 = .ok (.istore 9, 2) := by decide +kernel
theorem dX5_runPass_170 : decode mX5_runPass.2.1 170 = .ok (.iconst 0, 1) := by decide +kernel
theorem dX5_runPass_171 : decode mX5_runPass.2.1 171 = .ok (.istore 10, 2) := by decide +kernel
theorem dX5_runPass_173 : decode mX5_runPass.2.1 173 = .ok (.iload 10, 2) := by decide +kernel
theorem dX5_runPass_175 : decode mX5_runPass.2.1 175 = .ok (.sipush 256, 3) := by decide +kernel
theorem dX5_runPass_178 : decode mX5_runPass.2.1 178 = .ok (.if_icmp .ge 40, 3) := by decide +kernel
theorem dX5_runPass_181 : decode mX5_runPass.2.1 181 = .ok (.iload 9, 2) := by decide +kernel
theorem dX5_runPass_183 : decode mX5_runPass.2.1 183 = .ok (.iconst (-1), 1) := by decide +kernel
theorem dX5_runPass_184 : decode mX5_runPass.2.1 184 = .ok (.if_icmp .eq 34, 3) := by decide +kernel
theorem dX5_runPass_187 : decode mX5_runPass.2.1 187 = .ok (.aload_n 0, 1) := by decide +kernel
theorem dX5_runPass_188 : decode mX5_runPass.2.1 188 = .ok (.aload_n 1, 1) := by decide +kernel
theorem dX5_runPass_189 : decode mX5_runPass.2.1 189 = .ok (.iload 9, 2) := by decide +kernel
theorem dX5_runPass_191 : decode mX5_runPass.2.1 191 = .ok (.sipush 128, 3) := by decide +kernel
theorem dX5_runPass_194 : decode mX5_runPass.2.1 194 = .ok (.idiv, 1) := by decide +kernel
theorem dX5_runPass_195 : decode mX5_runPass.2.1 195 = .ok (.iload 9, 2) := by decide +kernel
theorem dX5_runPass_197 : decode mX5_runPass.2.1 197 = .ok (.sipush 128, 3) := by decide +kernel
theorem dX5_runPass_200 : decode mX5_runPass.2.1 200 = .ok (.irem, 1) := by decide +kernel
theorem dX5_runPass_201 : decode mX5_runPass.2.1 201 = .ok (.invokevirtual 69, 3) := by decide +kernel
theorem dX5_runPass_204 : decode mX5_runPass.2.1 204 = .ok (.aload_n 0, 1) := by decide +kernel
theorem dX5_runPass_205 : decode mX5_runPass.2.1 205 = .ok (.iload 4, 2) := by decide +kernel
theorem dX5_runPass_207 : decode mX5_runPass.2.1 207 = .ok (.invokevirtual 73, 3) := by decide +kernel
theorem dX5_runPass_210 : decode mX5_runPass.2.1 210 = .ok (.istore 9, 2) := by decide +kernel
theorem dX5_runPass_212 : decode mX5_runPass.2.1 212 = .ok (.iinc 10 1, 3) := by decide +kernel
theorem dX5_runPass_215 : decode mX5_runPass.2.1 215 = .ok (.goto (-42), 3) := by decide +kernel
theorem dX5_runPass_218 : decode mX5_runPass.2.1 218 = .ok (.iinc 6 1, 3) := by decide +kernel
theorem dX5_runPass_221 : decode mX5_runPass.2.1 221 = .ok (.goto (-131), 3) := by decide +kernel
theorem dX5_runPass_224 : decode mX5_runPass.2.1 224 = .ok (.aload_n 1, 1) := by decide +kernel
theorem dX5_runPass_225 : decode mX5_runPass.2.1 225 = .ok (.dup, 1) := by decide +kernel
theorem dX5_runPass_226 : decode mX5_runPass.2.1 226 = .ok (.getfield 32, 3) := by decide +kernel
theorem dX5_runPass_229 : decode mX5_runPass.2.1 229 = .ok (.iconst 1, 1) := by decide +kernel
theorem dX5_runPass_230 : decode mX5_runPass.2.1 230 = .ok (.iadd, 1) := by decide +kernel
theorem dX5_runPass_231 : decode mX5_runPass.2.1 231 = .ok (.putfield 32, 3) := by decide +kernel
theorem dX5_runPass_234 : decode mX5_runPass.2.1 234 = .ok (.aload_n 1, 1) := by decide +kernel
theorem dX5_runPass_235 : decode mX5_runPass.2.1 235 = .ok (.iconst 3, 1) := by decide +kernel
theorem dX5_runPass_236 : decode mX5_runPass.2.1 236 = .ok (.putfield 77, 3) := by decide +kernel
theorem dX5_runPass_239 : decode mX5_runPass.2.1 239 = .ok (.aload_n 1, 1) := by decide +kernel
theorem dX5_runPass_240 : decode mX5_runPass.2.1 240 = .ok (.getfield 37, 3) := by decide +kernel
theorem dX5_runPass_243 : decode mX5_runPass.2.1 243 = .ok (.iload_n 3, 1) := by decide +kernel
theorem dX5_runPass_244 : decode mX5_runPass.2.1 244 = .ok (.isub, 1) := by decide +kernel
theorem dX5_runPass_245 : decode mX5_runPass.2.1 245 = .ok (.ireturn, 1) := by decide +kernel
theorem dX5_shortestOdd_0 : decode mX5_shortestOdd.2.1 0 = .ok (.iconst (-1), 1) := by decide +kernel
theorem dX5_shortestOdd_1 : decode mX5_shortestOdd.2.1 1 = .ok (.istore_n 2, 1) := by decide +kernel
theorem dX5_shortestOdd_2 : decode mX5_shortestOdd.2.1 2 = .ok (.sipush 257, 3) := by decide +kernel
theorem dX5_shortestOdd_5 : decode mX5_shortestOdd.2.1 5 = .ok (.istore_n 3, 1) := by decide +kernel
theorem dX5_shortestOdd_6 : decode mX5_shortestOdd.2.1 6 = .ok (.iconst 0, 1) := by decide +kernel
theorem dX5_shortestOdd_7 : decode mX5_shortestOdd.2.1 7 = .ok (.istore 4, 2) := by decide +kernel
theorem dX5_shortestOdd_9 : decode mX5_shortestOdd.2.1 9 = .ok (.iload 4, 2) := by decide +kernel
theorem dX5_shortestOdd_11 : decode mX5_shortestOdd.2.1 11 = .ok (.aload_n 0, 1) := by decide +kernel
theorem dX5_shortestOdd_12 : decode mX5_shortestOdd.2.1 12 = .ok (.getfield 26, 3) := by decide +kernel
theorem dX5_shortestOdd_15 : decode mX5_shortestOdd.2.1 15 = .ok (.if_icmp .gt 105, 3) := by decide +kernel
theorem dX5_shortestOdd_18 : decode mX5_shortestOdd.2.1 18 = .ok (.iload 4, 2) := by decide +kernel
theorem dX5_shortestOdd_20 : decode mX5_shortestOdd.2.1 20 = .ok (.aload_n 0, 1) := by decide +kernel
theorem dX5_shortestOdd_21 : decode mX5_shortestOdd.2.1 21 = .ok (.getfield 26, 3) := by decide +kernel
theorem dX5_shortestOdd_24 : decode mX5_shortestOdd.2.1 24 = .ok (.if_icmp .ge 17, 3) := by decide +kernel
theorem dX5_shortestOdd_27 : decode mX5_shortestOdd.2.1 27 = .ok (.iload_n 1, 1) := by decide +kernel
theorem dX5_shortestOdd_28 : decode mX5_shortestOdd.2.1 28 = .ok (.aload_n 0, 1) := by decide +kernel
theorem dX5_shortestOdd_29 : decode mX5_shortestOdd.2.1 29 = .ok (.getfield 22, 3) := by decide +kernel
theorem dX5_shortestOdd_32 : decode mX5_shortestOdd.2.1 32 = .ok (.iload 4, 2) := by decide +kernel
theorem dX5_shortestOdd_34 : decode mX5_shortestOdd.2.1 34 = .ok (.ishl, 1) := by decide +kernel
theorem dX5_shortestOdd_35 : decode mX5_shortestOdd.2.1 35 = .ok (.invokestatic 57, 3) := by decide +kernel
theorem dX5_shortestOdd_38 : decode mX5_shortestOdd.2.1 38 = .ok (.goto 7, 3) := by decide +kernel
theorem dX5_shortestOdd_41 : decode mX5_shortestOdd.2.1 41 = .ok (.aload_n 0, 1) := by decide +kernel
theorem dX5_shortestOdd_42 : decode mX5_shortestOdd.2.1 42 = .ok (.getfield 29, 3) := by decide +kernel
theorem dX5_shortestOdd_45 : decode mX5_shortestOdd.2.1 45 = .ok (.istore 5, 2) := by decide +kernel
theorem dX5_shortestOdd_47 : decode mX5_shortestOdd.2.1 47 = .ok (.iconst 0, 1) := by decide +kernel
theorem dX5_shortestOdd_48 : decode mX5_shortestOdd.2.1 48 = .ok (.istore 6, 2) := by decide +kernel
theorem dX5_shortestOdd_50 : decode mX5_shortestOdd.2.1 50 = .ok (.iload 6, 2) := by decide +kernel
theorem dX5_shortestOdd_52 : decode mX5_shortestOdd.2.1 52 = .ok (.iload 5, 2) := by decide +kernel
theorem dX5_shortestOdd_54 : decode mX5_shortestOdd.2.1 54 = .ok (.if_icmp .ge 60, 3) := by decide +kernel
theorem dX5_shortestOdd_57 : decode mX5_shortestOdd.2.1 57 = .ok (.iload_n 1, 1) := by decide +kernel
theorem dX5_shortestOdd_58 : decode mX5_shortestOdd.2.1 58 = .ok (.aload_n 0, 1) := by decide +kernel
theorem dX5_shortestOdd_59 : decode mX5_shortestOdd.2.1 59 = .ok (.getfield 22, 3) := by decide +kernel
theorem dX5_shortestOdd_62 : decode mX5_shortestOdd.2.1 62 = .ok (.iload 4, 2) := by decide +kernel
theorem dX5_shortestOdd_64 : decode mX5_shortestOdd.2.1 64 = .ok (.ishl, 1) := by decide +kernel
theorem dX5_shortestOdd_65 : decode mX5_shortestOdd.2.1 65 = .ok (.iload 6, 2) := by decide +kernel
theorem dX5_shortestOdd_67 : decode mX5_shortestOdd.2.1 67 = .ok (.invokestatic 61, 3) := by decide +kernel
theorem dX5_shortestOdd_70 : decode mX5_shortestOdd.2.1 70 = .ok (.istore 7, 2) := by decide +kernel
theorem dX5_shortestOdd_72 : decode mX5_shortestOdd.2.1 72 = .ok (.aload_n 0, 1) := by decide +kernel
theorem dX5_shortestOdd_73 : decode mX5_shortestOdd.2.1 73 = .ok (.getfield 15, 3) := by decide +kernel
theorem dX5_shortestOdd_76 : decode mX5_shortestOdd.2.1 76 = .ok (.iload 4, 2) := by decide +kernel
theorem dX5_shortestOdd_78 : decode mX5_shortestOdd.2.1 78 = .ok (.sipush 128, 3) := by decide +kernel
theorem dX5_shortestOdd_81 : decode mX5_shortestOdd.2.1 81 = .ok (.imul, 1) := by decide +kernel
theorem dX5_shortestOdd_82 : decode mX5_shortestOdd.2.1 82 = .ok (.iload 6, 2) := by decide +kernel
theorem dX5_shortestOdd_84 : decode mX5_shortestOdd.2.1 84 = .ok (.iadd, 1) := by decide +kernel
theorem dX5_shortestOdd_85 : decode mX5_shortestOdd.2.1 85 = .ok (.iaload, 1) := by decide +kernel
theorem dX5_shortestOdd_86 : decode mX5_shortestOdd.2.1 86 = .ok (.ifCond .eq 22, 3) := by decide +kernel
theorem dX5_shortestOdd_89 : decode mX5_shortestOdd.2.1 89 = .ok (.iload 7, 2) := by decide +kernel
theorem dX5_shortestOdd_91 : decode mX5_shortestOdd.2.1 91 = .ok (.iload_n 3, 1) := by decide +kernel
theorem dX5_shortestOdd_92 : decode mX5_shortestOdd.2.1 92 = .ok (.if_icmp .ge 16, 3) := by decide +kernel
theorem dX5_shortestOdd_95 : decode mX5_shortestOdd.2.1 95 = .ok (.iload 4, 2) := by decide +kernel
theorem dX5_shortestOdd_97 : decode mX5_shortestOdd.2.1 97 = .ok (.sipush 128, 3) := by decide +kernel
theorem dX5_shortestOdd_100 : decode mX5_shortestOdd.2.1 100 = .ok (.imul, 1) := by decide +kernel
theorem dX5_shortestOdd_101 : decode mX5_shortestOdd.2.1 101 = .ok (.iload 6, 2) := by decide +kernel
theorem dX5_shortestOdd_103 : decode mX5_shortestOdd.2.1 103 = .ok (.iadd, 1) := by decide +kernel
theorem dX5_shortestOdd_104 : decode mX5_shortestOdd.2.1 104 = .ok (.istore_n 2, 1) := by decide +kernel
theorem dX5_shortestOdd_105 : decode mX5_shortestOdd.2.1 105 = .ok (.iload 7, 2) := by decide +kernel
theorem dX5_shortestOdd_107 : decode mX5_shortestOdd.2.1 107 = .ok (.istore_n 3, 1) := by decide +kernel
theorem dX5_shortestOdd_108 : decode mX5_shortestOdd.2.1 108 = .ok (.iinc 6 1, 3) := by decide +kernel
theorem dX5_shortestOdd_111 : decode mX5_shortestOdd.2.1 111 = .ok (.goto (-61), 3) := by decide +kernel
theorem dX5_shortestOdd_114 : decode mX5_shortestOdd.2.1 114 = .ok (.iinc 4 1, 3) := by decide +kernel
theorem dX5_shortestOdd_117 : decode mX5_shortestOdd.2.1 117 = .ok (.goto (-108), 3) := by decide +kernel
theorem dX5_shortestOdd_120 : decode mX5_shortestOdd.2.1 120 = .ok (.iload_n 2, 1) := by decide +kernel
theorem dX5_shortestOdd_121 : decode mX5_shortestOdd.2.1 121 = .ok (.ireturn, 1) := by decide +kernel
theorem dX5_winnowEights_0 : decode mX5_winnowEights.2.1 0 = .ok (.aload_n 1, 1) := by decide +kernel
theorem dX5_winnowEights_1 : decode mX5_winnowEights.2.1 1 = .ok (.getfield 37, 3) := by decide +kernel
theorem dX5_winnowEights_4 : decode mX5_winnowEights.2.1 4 = .ok (.istore_n 2, 1) := by decide +kernel
theorem dX5_winnowEights_5 : decode mX5_winnowEights.2.1 5 = .ok (.iconst 0, 1) := by decide +kernel
theorem dX5_winnowEights_6 : decode mX5_winnowEights.2.1 6 = .ok (.istore_n 3, 1) := by decide +kernel
theorem dX5_winnowEights_7 : decode mX5_winnowEights.2.1 7 = .ok (.iload_n 3, 1) := by decide +kernel
theorem dX5_winnowEights_8 : decode mX5_winnowEights.2.1 8 = .ok (.bipush 8, 2) := by decide +kernel
theorem dX5_winnowEights_10 : decode mX5_winnowEights.2.1 10 = .ok (.iadd, 1) := by decide +kernel
theorem dX5_winnowEights_11 : decode mX5_winnowEights.2.1 11 = .ok (.aload_n 1, 1) := by decide +kernel
theorem dX5_winnowEights_12 : decode mX5_winnowEights.2.1 12 = .ok (.getfield 48, 3) := by decide +kernel
theorem dX5_winnowEights_15 : decode mX5_winnowEights.2.1 15 = .ok (.getfield 52, 3) := by decide +kernel
theorem dX5_winnowEights_18 : decode mX5_winnowEights.2.1 18 = .ok (.if_icmp .gt 84, 3) := by decide +kernel
theorem dX5_winnowEights_21 : decode mX5_winnowEights.2.1 21 = .ok (.aload_n 0, 1) := by decide +kernel
theorem dX5_winnowEights_22 : decode mX5_winnowEights.2.1 22 = .ok (.aload_n 1, 1) := by decide +kernel
theorem dX5_winnowEights_23 : decode mX5_winnowEights.2.1 23 = .ok (.iload_n 3, 1) := by decide +kernel
theorem dX5_winnowEights_24 : decode mX5_winnowEights.2.1 24 = .ok (.iconst 0, 1) := by decide +kernel
theorem dX5_winnowEights_25 : decode mX5_winnowEights.2.1 25 = .ok (.invokevirtual 117, 3) := by decide +kernel
theorem dX5_winnowEights_28 : decode mX5_winnowEights.2.1 28 = .ok (.ifCond .eq 68, 3) := by decide +kernel
theorem dX5_winnowEights_31 : decode mX5_winnowEights.2.1 31 = .ok (.iconst 0, 1) := by decide +kernel
theorem dX5_winnowEights_32 : decode mX5_winnowEights.2.1 32 = .ok (.istore 4, 2) := by decide +kernel
theorem dX5_winnowEights_34 : decode mX5_winnowEights.2.1 34 = .ok (.iconst 1, 1) := by decide +kernel
theorem dX5_winnowEights_35 : decode mX5_winnowEights.2.1 35 = .ok (.istore 5, 2) := by decide +kernel
theorem dX5_winnowEights_37 : decode mX5_winnowEights.2.1 37 = .ok (.iload 5, 2) := by decide +kernel
theorem dX5_winnowEights_39 : decode mX5_winnowEights.2.1 39 = .ok (.bipush 8, 2) := by decide +kernel
theorem dX5_winnowEights_41 : decode mX5_winnowEights.2.1 41 = .ok (.if_icmp .ge 34, 3) := by decide +kernel
theorem dX5_winnowEights_44 : decode mX5_winnowEights.2.1 44 = .ok (.iload 4, 2) := by decide +kernel
theorem dX5_winnowEights_46 : decode mX5_winnowEights.2.1 46 = .ok (.aload_n 0, 1) := by decide +kernel
theorem dX5_winnowEights_47 : decode mX5_winnowEights.2.1 47 = .ok (.aload_n 1, 1) := by decide +kernel
theorem dX5_winnowEights_48 : decode mX5_winnowEights.2.1 48 = .ok (.iload_n 3, 1) := by decide +kernel
theorem dX5_winnowEights_49 : decode mX5_winnowEights.2.1 49 = .ok (.iload 5, 2) := by decide +kernel
theorem dX5_winnowEights_51 : decode mX5_winnowEights.2.1 51 = .ok (.invokevirtual 117, 3) := by decide +kernel
theorem dX5_winnowEights_54 : decode mX5_winnowEights.2.1 54 = .ok (.ifCond .eq 8, 3) := by decide +kernel
theorem dX5_winnowEights_57 : decode mX5_winnowEights.2.1 57 = .ok (.iload 5, 2) := by decide +kernel
theorem dX5_winnowEights_59 : decode mX5_winnowEights.2.1 59 = .ok (.goto 4, 3) := by decide +kernel
theorem dX5_winnowEights_62 : decode mX5_winnowEights.2.1 62 = .ok (.iconst 0, 1) := by decide +kernel
theorem dX5_winnowEights_63 : decode mX5_winnowEights.2.1 63 = .ok (.iadd, 1) := by decide +kernel
theorem dX5_winnowEights_64 : decode mX5_winnowEights.2.1 64 = .ok (.istore 4, 2) := by decide +kernel
theorem dX5_winnowEights_66 : decode mX5_winnowEights.2.1 66 = .ok (.iload 5, 2) := by decide +kernel
theorem dX5_winnowEights_68 : decode mX5_winnowEights.2.1 68 = .ok (.iconst 2, 1) := by decide +kernel
theorem dX5_winnowEights_69 : decode mX5_winnowEights.2.1 69 = .ok (.imul, 1) := by decide +kernel
theorem dX5_winnowEights_70 : decode mX5_winnowEights.2.1 70 = .ok (.istore 5, 2) := by decide +kernel
theorem dX5_winnowEights_72 : decode mX5_winnowEights.2.1 72 = .ok (.goto (-35), 3) := by decide +kernel
theorem dX5_winnowEights_75 : decode mX5_winnowEights.2.1 75 = .ok (.aload_n 1, 1) := by decide +kernel
theorem dX5_winnowEights_76 : decode mX5_winnowEights.2.1 76 = .ok (.getfield 48, 3) := by decide +kernel
theorem dX5_winnowEights_79 : decode mX5_winnowEights.2.1 79 = .ok (.iload_n 3, 1) := by decide +kernel
theorem dX5_winnowEights_80 : decode mX5_winnowEights.2.1 80 = .ok (.iload 4, 2) := by decide +kernel
theorem dX5_winnowEights_82 : decode mX5_winnowEights.2.1 82 = .ok (.iadd, 1) := by decide +kernel
theorem dX5_winnowEights_83 : decode mX5_winnowEights.2.1 83 = .ok (.invokevirtual 114, 3) := by decide +kernel
theorem dX5_winnowEights_86 : decode mX5_winnowEights.2.1 86 = .ok (.aload_n 1, 1) := by decide +kernel
theorem dX5_winnowEights_87 : decode mX5_winnowEights.2.1 87 = .ok (.dup, 1) := by decide +kernel
theorem dX5_winnowEights_88 : decode mX5_winnowEights.2.1 88 = .ok (.getfield 37, 3) := by decide +kernel
theorem dX5_winnowEights_91 : decode mX5_winnowEights.2.1 91 = .ok (.iconst 1, 1) := by decide +kernel
theorem dX5_winnowEights_92 : decode mX5_winnowEights.2.1 92 = .ok (.iadd, 1) := by decide +kernel
theorem dX5_winnowEights_93 : decode mX5_winnowEights.2.1 93 = .ok (.putfield 37, 3) := by decide +kernel
theorem dX5_winnowEights_96 : decode mX5_winnowEights.2.1 96 = .ok (.iinc 3 8, 3) := by decide +kernel
theorem dX5_winnowEights_99 : decode mX5_winnowEights.2.1 99 = .ok (.goto (-92), 3) := by decide +kernel
theorem dX5_winnowEights_102 : decode mX5_winnowEights.2.1 102 = .ok (.aload_n 1, 1) := by decide +kernel
theorem dX5_winnowEights_103 : decode mX5_winnowEights.2.1 103 = .ok (.dup, 1) := by decide +kernel
theorem dX5_winnowEights_104 : decode mX5_winnowEights.2.1 104 = .ok (.getfield 121, 3) := by decide +kernel
theorem dX5_winnowEights_107 : decode mX5_winnowEights.2.1 107 = .ok (.iconst 1, 1) := by decide +kernel
theorem dX5_winnowEights_108 : decode mX5_winnowEights.2.1 108 = .ok (.iadd, 1) := by decide +kernel
theorem dX5_winnowEights_109 : decode mX5_winnowEights.2.1 109 = .ok (.putfield 121, 3) := by decide +kernel
theorem dX5_winnowEights_112 : decode mX5_winnowEights.2.1 112 = .ok (.aload_n 1, 1) := by decide +kernel
theorem dX5_winnowEights_113 : decode mX5_winnowEights.2.1 113 = .ok (.iconst 3, 1) := by decide +kernel
theorem dX5_winnowEights_114 : decode mX5_winnowEights.2.1 114 = .ok (.putfield 77, 3) := by decide +kernel
theorem dX5_winnowEights_117 : decode mX5_winnowEights.2.1 117 = .ok (.aload_n 1, 1) := by decide +kernel
theorem dX5_winnowEights_118 : decode mX5_winnowEights.2.1 118 = .ok (.getfield 37, 3) := by decide +kernel
theorem dX5_winnowEights_121 : decode mX5_winnowEights.2.1 121 = .ok (.iload_n 2, 1) := by decide +kernel
theorem dX5_winnowEights_122 : decode mX5_winnowEights.2.1 122 = .ok (.isub, 1) := by decide +kernel
theorem dX5_winnowEights_123 : decode mX5_winnowEights.2.1 123 = .ok (.ireturn, 1) := by decide +kernel
theorem dX6_clear_0 : decode mX6_clear.2.1 0 = .ok (.getstatic 9, 3) := by decide +kernel
theorem dX6_clear_3 : decode mX6_clear.2.1 3 = .ok (.iconst 0, 1) := by decide +kernel
theorem dX6_clear_4 : decode mX6_clear.2.1 4 = .ok (.aload_n 0, 1) := by decide +kernel
theorem dX6_clear_5 : decode mX6_clear.2.1 5 = .ok (.getfield 18, 3) := by decide +kernel
theorem dX6_clear_8 : decode mX6_clear.2.1 8 = .ok (.iconst 0, 1) := by decide +kernel
theorem dX6_clear_9 : decode mX6_clear.2.1 9 = .ok (.bipush 9, 2) := by decide +kernel
theorem dX6_clear_11 : decode mX6_clear.2.1 11 = .ok (.invokestatic 23, 3) := by decide +kernel
theorem dX6_clear_14 : decode mX6_clear.2.1 14 = .ok (.return_, 1) := by decide +kernel
theorem dX6_init_0 : decode mX6_init.2.1 0 = .ok (.aload_n 0, 1) := by decide +kernel
theorem dX6_init_1 : decode mX6_init.2.1 1 = .ok (.invokespecial 3, 3) := by decide +kernel
theorem dX6_init_4 : decode mX6_init.2.1 4 = .ok (.aload_n 0, 1) := by decide +kernel
theorem dX6_init_5 : decode mX6_init.2.1 5 = .ok (.getstatic 9, 3) := by decide +kernel
theorem dX6_init_8 : decode mX6_init.2.1 8 = .ok (.invokevirtual 13, 3) := by decide +kernel
theorem dX6_init_11 : decode mX6_init.2.1 11 = .ok (.checkcast 14, 3) := by decide +kernel
theorem dX6_init_14 : decode mX6_init.2.1 14 = .ok (.putfield 18, 3) := by decide +kernel
theorem dX6_init_17 : decode mX6_init.2.1 17 = .ok (.return_, 1) := by decide +kernel
theorem dX6_number_0 : decode mX6_number.2.1 0 = .ok (.iload_n 1, 1) := by decide +kernel
theorem dX6_number_1 : decode mX6_number.2.1 1 = .ok (.ifCond .lt 18, 3) := by decide +kernel
theorem dX6_number_4 : decode mX6_number.2.1 4 = .ok (.iload_n 1, 1) := by decide +kernel
theorem dX6_number_5 : decode mX6_number.2.1 5 = .ok (.bipush 9, 2) := by decide +kernel
theorem dX6_number_7 : decode mX6_number.2.1 7 = .ok (.if_icmp .ge 12, 3) := by decide +kernel
theorem dX6_number_10 : decode mX6_number.2.1 10 = .ok (.aload_n 0, 1) := by decide +kernel
theorem dX6_number_11 : decode mX6_number.2.1 11 = .ok (.getfield 18, 3) := by decide +kernel
theorem dX6_number_14 : decode mX6_number.2.1 14 = .ok (.iload_n 1, 1) := by decide +kernel
theorem dX6_number_15 : decode mX6_number.2.1 15 = .ok (.iaload, 1) := by decide +kernel
theorem dX6_number_16 : decode mX6_number.2.1 16 = .ok (.goto 4, 3) := by decide +kernel
theorem dX6_number_19 : decode mX6_number.2.1 19 = .ok (.iconst (-1), 1) := by decide +kernel
theorem dX6_number_20 : decode mX6_number.2.1 20 = .ok (.ireturn, 1) := by decide +kernel
theorem dX6_put_0 : decode mX6_put.2.1 0 = .ok (.iload_n 1, 1) := by decide +kernel
theorem dX6_put_1 : decode mX6_put.2.1 1 = .ok (.ifCond .lt 16, 3) := by decide +kernel
theorem dX6_put_4 : decode mX6_put.2.1 4 = .ok (.iload_n 1, 1) := by decide +kernel
theorem dX6_put_5 : decode mX6_put.2.1 5 = .ok (.bipush 9, 2) := by decide +kernel
theorem dX6_put_7 : decode mX6_put.2.1 7 = .ok (.if_icmp .ge 10, 3) := by decide +kernel
theorem dX6_put_10 : decode mX6_put.2.1 10 = .ok (.aload_n 0, 1) := by decide +kernel
theorem dX6_put_11 : decode mX6_put.2.1 11 = .ok (.getfield 18, 3) := by decide +kernel
theorem dX6_put_14 : decode mX6_put.2.1 14 = .ok (.iload_n 1, 1) := by decide +kernel
theorem dX6_put_15 : decode mX6_put.2.1 15 = .ok (.iload_n 2, 1) := by decide +kernel
theorem dX6_put_16 : decode mX6_put.2.1 16 = .ok (.iastore, 1) := by decide +kernel
theorem dX6_put_17 : decode mX6_put.2.1 17 = .ok (.return_, 1) := by decide +kernel
theorem dX6_takeFrom_0 : decode mX6_takeFrom.2.1 0 = .ok (.aload_n 1, 1) := by decide +kernel
theorem dX6_takeFrom_1 : decode mX6_takeFrom.2.1 1 = .ok (.getfield 18, 3) := by decide +kernel
theorem dX6_takeFrom_4 : decode mX6_takeFrom.2.1 4 = .ok (.iconst 0, 1) := by decide +kernel
theorem dX6_takeFrom_5 : decode mX6_takeFrom.2.1 5 = .ok (.aload_n 0, 1) := by decide +kernel
theorem dX6_takeFrom_6 : decode mX6_takeFrom.2.1 6 = .ok (.getfield 18, 3) := by decide +kernel
theorem dX6_takeFrom_9 : decode mX6_takeFrom.2.1 9 = .ok (.iconst 0, 1) := by decide +kernel
theorem dX6_takeFrom_10 : decode mX6_takeFrom.2.1 10 = .ok (.bipush 9, 2) := by decide +kernel
theorem dX6_takeFrom_12 : decode mX6_takeFrom.2.1 12 = .ok (.invokestatic 23, 3) := by decide +kernel
theorem dX6_takeFrom_15 : decode mX6_takeFrom.2.1 15 = .ok (.return_, 1) := by decide +kernel
theorem dX7_faultAt_0 : decode mX7_faultAt.2.1 0 = .ok (.bipush 8, 2) := by decide +kernel
theorem dX7_faultAt_2 : decode mX7_faultAt.2.1 2 = .ok (.iload_n 0, 1) := by decide +kernel
theorem dX7_faultAt_3 : decode mX7_faultAt.2.1 3 = .ok (.imul, 1) := by decide +kernel
theorem dX7_faultAt_4 : decode mX7_faultAt.2.1 4 = .ok (.iload_n 1, 1) := by decide +kernel
theorem dX7_faultAt_5 : decode mX7_faultAt.2.1 5 = .ok (.iadd, 1) := by decide +kernel
theorem dX7_faultAt_6 : decode mX7_faultAt.2.1 6 = .ok (.ireturn, 1) := by decide +kernel
theorem dX7_init_0 : decode mX7_init.2.1 0 = .ok (.aload_n 0, 1) := by decide +kernel
theorem dX7_init_1 : decode mX7_init.2.1 1 = .ok (.invokespecial 3, 3) := by decide +kernel
theorem dX7_init_4 : decode mX7_init.2.1 4 = .ok (.aload_n 0, 1) := by decide +kernel
theorem dX7_init_5 : decode mX7_init.2.1 5 = .ok (.new 9, 3) := by decide +kernel
theorem dX7_init_8 : decode mX7_init.2.1 8 = .ok (.dup, 1) := by decide +kernel
theorem dX7_init_9 : decode mX7_init.2.1 9 = .ok (.invokespecial 11, 3) := by decide +kernel
theorem dX7_init_12 : decode mX7_init.2.1 12 = .ok (.putfield 12, 3) := by decide +kernel
theorem dX7_init_15 : decode mX7_init.2.1 15 = .ok (.aload_n 0, 1) := by decide +kernel
theorem dX7_init_16 : decode mX7_init.2.1 16 = .ok (.bipush 9, 2) := by decide +kernel
theorem dX7_init_18 : decode mX7_init.2.1 18 = .ok (.newarray .int, 2) := by decide +kernel
theorem dX7_init_20 : decode mX7_init.2.1 20 = .ok (.putfield 18, 3) := by decide +kernel
theorem dX7_init_23 : decode mX7_init.2.1 23 = .ok (.aload_n 0, 1) := by decide +kernel
theorem dX7_init_24 : decode mX7_init.2.1 24 = .ok (.iconst 0, 1) := by decide +kernel
theorem dX7_init_25 : decode mX7_init.2.1 25 = .ok (.newarray .int, 2) := by decide +kernel
theorem dX7_init_27 : decode mX7_init.2.1 27 = .ok (.putfield 22, 3) := by decide +kernel
theorem dX7_init_30 : decode mX7_init.2.1 30 = .ok (.aload_n 0, 1) := by decide +kernel
theorem dX7_init_31 : decode mX7_init.2.1 31 = .ok (.iconst 0, 1) := by decide +kernel
theorem dX7_init_32 : decode mX7_init.2.1 32 = .ok (.putfield 25, 3) := by decide +kernel
theorem dX7_init_35 : decode mX7_init.2.1 35 = .ok (.aload_n 0, 1) := by decide +kernel
theorem dX7_init_36 : decode mX7_init.2.1 36 = .ok (.iconst 0, 1) := by decide +kernel
theorem dX7_init_37 : decode mX7_init.2.1 37 = .ok (.putfield 29, 3) := by decide +kernel
theorem dX7_init_40 : decode mX7_init.2.1 40 = .ok (.return_, 1) := by decide +kernel
theorem dX7_isAlong_0 : decode mX7_isAlong.2.1 0 = .ok (.aload_n 1, 1) := by decide +kernel
theorem dX7_isAlong_1 : decode mX7_isAlong.2.1 1 = .ok (.invokevirtual 85, 3) := by decide +kernel
theorem dX7_isAlong_4 : decode mX7_isAlong.2.1 4 = .ok (.iload_n 3, 1) := by decide +kernel
theorem dX7_isAlong_5 : decode mX7_isAlong.2.1 5 = .ok (.iload_n 2, 1) := by decide +kernel
theorem dX7_isAlong_6 : decode mX7_isAlong.2.1 6 = .ok (.isub, 1) := by decide +kernel
theorem dX7_isAlong_7 : decode mX7_isAlong.2.1 7 = .ok (.if_icmp .eq 5, 3) := by decide +kernel
theorem dX7_isAlong_10 : decode mX7_isAlong.2.1 10 = .ok (.iconst 0, 1) := by decide +kernel
theorem dX7_isAlong_11 : decode mX7_isAlong.2.1 11 = .ok (.ireturn, 1) := by decide +kernel
theorem dX7_isAlong_12 : decode mX7_isAlong.2.1 12 = .ok (.iconst 0, 1) := by decide +kernel
theorem dX7_isAlong_13 : decode mX7_isAlong.2.1 13 = .ok (.istore 4, 2) := by decide +kernel
theorem dX7_isAlong_15 : decode mX7_isAlong.2.1 15 = .ok (.iload 4, 2) := by decide +kernel
theorem dX7_isAlong_17 : decode mX7_isAlong.2.1 17 = .ok (.aload_n 1, 1) := by decide +kernel
theorem dX7_isAlong_18 : decode mX7_isAlong.2.1 18 = .ok (.invokevirtual 85, 3) := by decide +kernel
theorem dX7_isAlong_21 : decode mX7_isAlong.2.1 21 = .ok (.if_icmp .ge 29, 3) := by decide +kernel
theorem dX7_isAlong_24 : decode mX7_isAlong.2.1 24 = .ok (.aload_n 0, 1) := by decide +kernel
theorem dX7_isAlong_25 : decode mX7_isAlong.2.1 25 = .ok (.getfield 22, 3) := by decide +kernel
theorem dX7_isAlong_28 : decode mX7_isAlong.2.1 28 = .ok (.iload_n 2, 1) := by decide +kernel
theorem dX7_isAlong_29 : decode mX7_isAlong.2.1 29 = .ok (.iload 4, 2) := by decide +kernel
theorem dX7_isAlong_31 : decode mX7_isAlong.2.1 31 = .ok (.iadd, 1) := by decide +kernel
theorem dX7_isAlong_32 : decode mX7_isAlong.2.1 32 = .ok (.iaload, 1) := by decide +kernel
theorem dX7_isAlong_33 : decode mX7_isAlong.2.1 33 = .ok (.aload_n 1, 1) := by decide +kernel
theorem dX7_isAlong_34 : decode mX7_isAlong.2.1 34 = .ok (.iload 4, 2) := by decide +kernel
theorem dX7_isAlong_36 : decode mX7_isAlong.2.1 36 = .ok (.invokevirtual 89, 3) := by decide +kernel
theorem dX7_isAlong_39 : decode mX7_isAlong.2.1 39 = .ok (.if_icmp .eq 5, 3) := by decide +kernel
theorem dX7_isAlong_42 : decode mX7_isAlong.2.1 42 = .ok (.iconst 0, 1) := by decide +kernel
theorem dX7_isAlong_43 : decode mX7_isAlong.2.1 43 = .ok (.ireturn, 1) := by decide +kernel
theorem dX7_isAlong_44 : decode mX7_isAlong.2.1 44 = .ok (.iinc 4 1, 3) := by decide +kernel
theorem dX7_isAlong_47 : decode mX7_isAlong.2.1 47 = .ok (.goto (-32), 3) := by decide +kernel
theorem dX7_isAlong_50 : decode mX7_isAlong.2.1 50 = .ok (.iconst 1, 1) := by decide +kernel
theorem dX7_isAlong_51 : decode mX7_isAlong.2.1 51 = .ok (.ireturn, 1) := by decide +kernel
theorem dX7_numberAlong_0 : decode mX7_numberAlong.2.1 0 = .ok (.iconst 0, 1) := by decide +kernel
theorem dX7_numberAlong_1 : decode mX7_numberAlong.2.1 1 = .ok (.istore_n 3, 1) := by decide +kernel
theorem dX7_numberAlong_2 : decode mX7_numberAlong.2.1 2 = .ok (.iload_n 1, 1) := by decide +kernel
theorem dX7_numberAlong_3 : decode mX7_numberAlong.2.1 3 = .ok (.istore 4, 2) := by decide +kernel
theorem dX7_numberAlong_5 : decode mX7_numberAlong.2.1 5 = .ok (.iload 4, 2) := by decide +kernel
theorem dX7_numberAlong_7 : decode mX7_numberAlong.2.1 7 = .ok (.iload_n 2, 1) := by decide +kernel
theorem dX7_numberAlong_8 : decode mX7_numberAlong.2.1 8 = .ok (.if_icmp .ge 30, 3) := by decide +kernel
theorem dX7_numberAlong_11 : decode mX7_numberAlong.2.1 11 = .ok (.bipush 10, 2) := by decide +kernel
theorem dX7_numberAlong_13 : decode mX7_numberAlong.2.1 13 = .ok (.iload_n 3, 1) := by decide +kernel
theorem dX7_numberAlong_14 : decode mX7_numberAlong.2.1 14 = .ok (.imul, 1) := by decide +kernel
theorem dX7_numberAlong_15 : decode mX7_numberAlong.2.1 15 = .ok (.aload_n 0, 1) := by decide +kernel
theorem dX7_numberAlong_16 : decode mX7_numberAlong.2.1 16 = .ok (.getfield 22, 3) := by decide +kernel
theorem dX7_numberAlong_19 : decode mX7_numberAlong.2.1 19 = .ok (.iload 4, 2) := by decide +kernel
theorem dX7_numberAlong_21 : decode mX7_numberAlong.2.1 21 = .ok (.iaload, 1) := by decide +kernel
theorem dX7_numberAlong_22 : decode mX7_numberAlong.2.1 22 = .ok (.iadd, 1) := by decide +kernel
theorem dX7_numberAlong_23 : decode mX7_numberAlong.2.1 23 = .ok (.bipush 48, 2) := by decide +kernel
theorem dX7_numberAlong_25 : decode mX7_numberAlong.2.1 25 = .ok (.isub, 1) := by decide +kernel
theorem dX7_numberAlong_26 : decode mX7_numberAlong.2.1 26 = .ok (.ldc 93, 2) := by decide +kernel
theorem dX7_numberAlong_28 : decode mX7_numberAlong.2.1 28 = .ok (.invokestatic 32, 3) := by decide +kernel
theorem dX7_numberAlong_31 : decode mX7_numberAlong.2.1 31 = .ok (.istore_n 3, 1) := by decide +kernel
theorem dX7_numberAlong_32 : decode mX7_numberAlong.2.1 32 = .ok (.iinc 4 1, 3) := by decide +kernel
theorem dX7_numberAlong_35 : decode mX7_numberAlong.2.1 35 = .ok (.goto (-30), 3) := by decide +kernel
theorem dX7_numberAlong_38 : decode mX7_numberAlong.2.1 38 = .ok (.iload_n 3, 1) := by decide +kernel
theorem dX7_numberAlong_39 : decode mX7_numberAlong.2.1 39 = .ok (.ireturn, 1) := by decide +kernel
theorem dX7_read_0 : decode mX7_read.2.1 0 = .ok (.aload_n 0, 1) := by decide +kernel
theorem dX7_read_1 : decode mX7_read.2.1 1 = .ok (.aload_n 1, 1) := by decide +kernel
theorem dX7_read_2 : decode mX7_read.2.1 2 = .ok (.putfield 22, 3) := by decide +kernel
theorem dX7_read_5 : decode mX7_read.2.1 5 = .ok (.aload_n 0, 1) := by decide +kernel
theorem dX7_read_6 : decode mX7_read.2.1 6 = .ok (.iload_n 2, 1) := by decide +kernel
theorem dX7_read_7 : decode mX7_read.2.1 7 = .ok (.aload_n 1, 1) := by decide +kernel
theorem dX7_read_8 : decode mX7_read.2.1 8 = .ok (.arraylength, 1) := by decide +kernel
theorem dX7_read_9 : decode mX7_read.2.1 9 = .ok (.invokestatic 32, 3) := by decide +kernel
theorem dX7_read_12 : decode mX7_read.2.1 12 = .ok (.putfield 25, 3) := by decide +kernel
theorem dX7_read_15 : decode mX7_read.2.1 15 = .ok (.aload_n 0, 1) := by decide +kernel
theorem dX7_read_16 : decode mX7_read.2.1 16 = .ok (.iconst 0, 1) := by decide +kernel
theorem dX7_read_17 : decode mX7_read.2.1 17 = .ok (.putfield 29, 3) := by decide +kernel
theorem dX7_read_20 : decode mX7_read.2.1 20 = .ok (.aload_n 0, 1) := by decide +kernel
theorem dX7_read_21 : decode mX7_read.2.1 21 = .ok (.getfield 12, 3) := by decide +kernel
theorem dX7_read_24 : decode mX7_read.2.1 24 = .ok (.invokevirtual 38, 3) := by decide +kernel
theorem dX7_read_27 : decode mX7_read.2.1 27 = .ok (.aload_n 0, 1) := by decide +kernel
theorem dX7_read_28 : decode mX7_read.2.1 28 = .ok (.getfield 18, 3) := by decide +kernel
theorem dX7_read_31 : decode mX7_read.2.1 31 = .ok (.iconst 0, 1) := by decide +kernel
theorem dX7_read_32 : decode mX7_read.2.1 32 = .ok (.invokestatic 41, 3) := by decide +kernel
theorem dX7_read_35 : decode mX7_read.2.1 35 = .ok (.iconst 1, 1) := by decide +kernel
theorem dX7_read_36 : decode mX7_read.2.1 36 = .ok (.istore_n 3, 1) := by decide +kernel
theorem dX7_read_37 : decode mX7_read.2.1 37 = .ok (.iload_n 3, 1) := by decide +kernel
theorem dX7_read_38 : decode mX7_read.2.1 38 = .ok (.bipush 10, 2) := by decide +kernel
theorem dX7_read_40 : decode mX7_read.2.1 40 = .ok (.if_icmp .gt 79, 3) := by decide +kernel
theorem dX7_read_43 : decode mX7_read.2.1 43 = .ok (.aload_n 0, 1) := by decide +kernel
theorem dX7_read_44 : decode mX7_read.2.1 44 = .ok (.invokevirtual 47, 3) := by decide +kernel
theorem dX7_read_47 : decode mX7_read.2.1 47 = .ok (.istore 4, 2) := by decide +kernel
theorem dX7_read_49 : decode mX7_read.2.1 49 = .ok (.iload 4, 2) := by decide +kernel
theorem dX7_read_51 : decode mX7_read.2.1 51 = .ok (.ifCond .eq 9, 3) := by decide +kernel
theorem dX7_read_54 : decode mX7_read.2.1 54 = .ok (.bipush (-2), 2) := by decide +kernel
theorem dX7_read_56 : decode mX7_read.2.1 56 = .ok (.iload 4, 2) := by decide +kernel
theorem dX7_read_58 : decode mX7_read.2.1 58 = .ok (.isub, 1) := by decide +kernel
theorem dX7_read_59 : decode mX7_read.2.1 59 = .ok (.ireturn, 1) := by decide +kernel
theorem dX7_read_60 : decode mX7_read.2.1 60 = .ok (.aload_n 0, 1) := by decide +kernel
theorem dX7_read_61 : decode mX7_read.2.1 61 = .ok (.invokevirtual 51, 3) := by decide +kernel
theorem dX7_read_64 : decode mX7_read.2.1 64 = .ok (.aload_n 0, 1) := by decide +kernel
theorem dX7_read_65 : decode mX7_read.2.1 65 = .ok (.getfield 29, 3) := by decide +kernel
theorem dX7_read_68 : decode mX7_read.2.1 68 = .ok (.aload_n 0, 1) := by decide +kernel
theorem dX7_read_69 : decode mX7_read.2.1 69 = .ok (.getfield 25, 3) := by decide +kernel
theorem dX7_read_72 : decode mX7_read.2.1 72 = .ok (.if_icmp .lt 5, 3) := by decide +kernel
theorem dX7_read_75 : decode mX7_read.2.1 75 = .ok (.iload_n 3, 1) := by decide +kernel
theorem dX7_read_76 : decode mX7_read.2.1 76 = .ok (.ireturn, 1) := by decide +kernel
theorem dX7_read_77 : decode mX7_read.2.1 77 = .ok (.aload_n 0, 1) := by decide +kernel
theorem dX7_read_78 : decode mX7_read.2.1 78 = .ok (.getfield 22, 3) := by decide +kernel
theorem dX7_read_81 : decode mX7_read.2.1 81 = .ok (.aload_n 0, 1) := by decide +kernel
theorem dX7_read_82 : decode mX7_read.2.1 82 = .ok (.getfield 29, 3) := by decide +kernel
theorem dX7_read_85 : decode mX7_read.2.1 85 = .ok (.iaload, 1) := by decide +kernel
theorem dX7_read_86 : decode mX7_read.2.1 86 = .ok (.bipush 59, 2) := by decide +kernel
theorem dX7_read_88 : decode mX7_read.2.1 88 = .ok (.if_icmp .eq 15, 3) := by decide +kernel
theorem dX7_read_91 : decode mX7_read.2.1 91 = .ok (.bipush (-2), 2) := by decide +kernel
theorem dX7_read_93 : decode mX7_read.2.1 93 = .ok (.aload_n 0, 1) := by decide +kernel
theorem dX7_read_94 : decode mX7_read.2.1 94 = .ok (.getfield 29, 3) := by decide +kernel
theorem dX7_read_97 : decode mX7_read.2.1 97 = .ok (.iconst 1, 1) := by decide +kernel
theorem dX7_read_98 : decode mX7_read.2.1 98 = .ok (.invokestatic 54, 3) := by decide +kernel
theorem dX7_read_101 : decode mX7_read.2.1 101 = .ok (.isub, 1) := by decide +kernel
theorem dX7_read_102 : decode mX7_read.2.1 102 = .ok (.ireturn, 1) := by decide +kernel
theorem dX7_read_103 : decode mX7_read.2.1 103 = .ok (.aload_n 0, 1) := by decide +kernel
theorem dX7_read_104 : decode mX7_read.2.1 104 = .ok (.dup, 1) := by decide +kernel
theorem dX7_read_105 : decode mX7_read.2.1 105 = .ok (.getfield 29, 3) := by decide +kernel
theorem dX7_read_108 : decode mX7_read.2.1 108 = .ok (.iconst 1, 1) := by decide +kernel
theorem dX7_read_109 : decode mX7_read.2.1 109 = .ok (.iadd, 1) := by decide +kernel
theorem dX7_read_110 : decode mX7_read.2.1 110 = .ok (.putfield 29, 3) := by decide +kernel
theorem dX7_read_113 : decode mX7_read.2.1 113 = .ok (.iinc 3 1, 3) := by decide +kernel
theorem dX7_read_116 : decode mX7_read.2.1 116 = .ok (.goto (-79), 3) := by decide +kernel
theorem dX7_read_119 : decode mX7_read.2.1 119 = .ok (.bipush (-2), 2) := by decide +kernel
theorem dX7_read_121 : decode mX7_read.2.1 121 = .ok (.aload_n 0, 1) := by decide +kernel
theorem dX7_read_122 : decode mX7_read.2.1 122 = .ok (.getfield 29, 3) := by decide +kernel
theorem dX7_read_125 : decode mX7_read.2.1 125 = .ok (.iconst 1, 1) := by decide +kernel
theorem dX7_read_126 : decode mX7_read.2.1 126 = .ok (.invokestatic 54, 3) := by decide +kernel
theorem dX7_read_129 : decode mX7_read.2.1 129 = .ok (.isub, 1) := by decide +kernel
theorem dX7_read_130 : decode mX7_read.2.1 130 = .ok (.ireturn, 1) := by decide +kernel
theorem dX7_readLine_0 : decode mX7_readLine.2.1 0 = .ok (.aload_n 0, 1) := by decide +kernel
theorem dX7_readLine_1 : decode mX7_readLine.2.1 1 = .ok (.invokevirtual 51, 3) := by decide +kernel
theorem dX7_readLine_4 : decode mX7_readLine.2.1 4 = .ok (.aload_n 0, 1) := by decide +kernel
theorem dX7_readLine_5 : decode mX7_readLine.2.1 5 = .ok (.getfield 29, 3) := by decide +kernel
theorem dX7_readLine_8 : decode mX7_readLine.2.1 8 = .ok (.istore_n 1, 1) := by decide +kernel
theorem dX7_readLine_9 : decode mX7_readLine.2.1 9 = .ok (.aload_n 0, 1) := by decide +kernel
theorem dX7_readLine_10 : decode mX7_readLine.2.1 10 = .ok (.bipush 97, 2) := by decide +kernel
theorem dX7_readLine_12 : decode mX7_readLine.2.1 12 = .ok (.bipush 122, 2) := by decide +kernel
theorem dX7_readLine_14 : decode mX7_readLine.2.1 14 = .ok (.invokevirtual 57, 3) := by decide +kernel
theorem dX7_readLine_17 : decode mX7_readLine.2.1 17 = .ok (.aload_n 0, 1) := by decide +kernel
theorem dX7_readLine_18 : decode mX7_readLine.2.1 18 = .ok (.iload_n 1, 1) := by decide +kernel
theorem dX7_readLine_19 : decode mX7_readLine.2.1 19 = .ok (.aload_n 0, 1) := by decide +kernel
theorem dX7_readLine_20 : decode mX7_readLine.2.1 20 = .ok (.getfield 29, 3) := by decide +kernel
theorem dX7_readLine_23 : decode mX7_readLine.2.1 23 = .ok (.invokevirtual 61, 3) := by decide +kernel
theorem dX7_readLine_26 : decode mX7_readLine.2.1 26 = .ok (.istore_n 2, 1) := by decide +kernel
theorem dX7_readLine_27 : decode mX7_readLine.2.1 27 = .ok (.iload_n 2, 1) := by decide +kernel
theorem dX7_readLine_28 : decode mX7_readLine.2.1 28 = .ok (.iconst (-1), 1) := by decide +kernel
theorem dX7_readLine_29 : decode mX7_readLine.2.1 29 = .ok (.if_icmp .ne 9, 3) := by decide +kernel
theorem dX7_readLine_32 : decode mX7_readLine.2.1 32 = .ok (.iload_n 1, 1) := by decide +kernel
theorem dX7_readLine_33 : decode mX7_readLine.2.1 33 = .ok (.iconst 1, 1) := by decide +kernel
theorem dX7_readLine_34 : decode mX7_readLine.2.1 34 = .ok (.invokestatic 54, 3) := by decide +kernel
theorem dX7_readLine_37 : decode mX7_readLine.2.1 37 = .ok (.ireturn, 1) := by decide +kernel
theorem dX7_readLine_38 : decode mX7_readLine.2.1 38 = .ok (.aload_n 0, 1) := by decide +kernel
theorem dX7_readLine_39 : decode mX7_readLine.2.1 39 = .ok (.getfield 18, 3) := by decide +kernel
theorem dX7_readLine_42 : decode mX7_readLine.2.1 42 = .ok (.iload_n 2, 1) := by decide +kernel
theorem dX7_readLine_43 : decode mX7_readLine.2.1 43 = .ok (.iaload, 1) := by decide +kernel
theorem dX7_readLine_44 : decode mX7_readLine.2.1 44 = .ok (.ifCond .eq 9, 3) := by decide +kernel
theorem dX7_readLine_47 : decode mX7_readLine.2.1 47 = .ok (.iload_n 1, 1) := by decide +kernel
theorem dX7_readLine_48 : decode mX7_readLine.2.1 48 = .ok (.iconst 3, 1) := by decide +kernel
theorem dX7_readLine_49 : decode mX7_readLine.2.1 49 = .ok (.invokestatic 54, 3) := by decide +kernel
theorem dX7_readLine_52 : decode mX7_readLine.2.1 52 = .ok (.ireturn, 1) := by decide +kernel
theorem dX7_readLine_53 : decode mX7_readLine.2.1 53 = .ok (.aload_n 0, 1) := by decide +kernel
theorem dX7_readLine_54 : decode mX7_readLine.2.1 54 = .ok (.getfield 18, 3) := by decide +kernel
theorem dX7_readLine_57 : decode mX7_readLine.2.1 57 = .ok (.iload_n 2, 1) := by decide +kernel
theorem dX7_readLine_58 : decode mX7_readLine.2.1 58 = .ok (.iconst 1, 1) := by decide +kernel
theorem dX7_readLine_59 : decode mX7_readLine.2.1 59 = .ok (.iastore, 1) := by decide +kernel
theorem dX7_readLine_60 : decode mX7_readLine.2.1 60 = .ok (.aload_n 0, 1) := by decide +kernel
theorem dX7_readLine_61 : decode mX7_readLine.2.1 61 = .ok (.invokevirtual 51, 3) := by decide +kernel
theorem dX7_readLine_64 : decode mX7_readLine.2.1 64 = .ok (.aload_n 0, 1) := by decide +kernel
theorem dX7_readLine_65 : decode mX7_readLine.2.1 65 = .ok (.getfield 29, 3) := by decide +kernel
theorem dX7_readLine_68 : decode mX7_readLine.2.1 68 = .ok (.istore_n 1, 1) := by decide +kernel
theorem dX7_readLine_69 : decode mX7_readLine.2.1 69 = .ok (.aload_n 0, 1) := by decide +kernel
theorem dX7_readLine_70 : decode mX7_readLine.2.1 70 = .ok (.bipush 48, 2) := by decide +kernel
theorem dX7_readLine_72 : decode mX7_readLine.2.1 72 = .ok (.bipush 57, 2) := by decide +kernel
theorem dX7_readLine_74 : decode mX7_readLine.2.1 74 = .ok (.invokevirtual 57, 3) := by decide +kernel
theorem dX7_readLine_77 : decode mX7_readLine.2.1 77 = .ok (.aload_n 0, 1) := by decide +kernel
theorem dX7_readLine_78 : decode mX7_readLine.2.1 78 = .ok (.getfield 29, 3) := by decide +kernel
theorem dX7_readLine_81 : decode mX7_readLine.2.1 81 = .ok (.iload_n 1, 1) := by decide +kernel
theorem dX7_readLine_82 : decode mX7_readLine.2.1 82 = .ok (.if_icmp .ne 9, 3) := by decide +kernel
theorem dX7_readLine_85 : decode mX7_readLine.2.1 85 = .ok (.iload_n 1, 1) := by decide +kernel
theorem dX7_readLine_86 : decode mX7_readLine.2.1 86 = .ok (.iconst 1, 1) := by decide +kernel
theorem dX7_readLine_87 : decode mX7_readLine.2.1 87 = .ok (.invokestatic 54, 3) := by decide +kernel
theorem dX7_readLine_90 : decode mX7_readLine.2.1 90 = .ok (.ireturn, 1) := by decide +kernel
theorem dX7_readLine_91 : decode mX7_readLine.2.1 91 = .ok (.aload_n 0, 1) := by decide +kernel
theorem dX7_readLine_92 : decode mX7_readLine.2.1 92 = .ok (.iload_n 1, 1) := by decide +kernel
theorem dX7_readLine_93 : decode mX7_readLine.2.1 93 = .ok (.aload_n 0, 1) := by decide +kernel
theorem dX7_readLine_94 : decode mX7_readLine.2.1 94 = .ok (.getfield 29, 3) := by decide +kernel
theorem dX7_readLine_97 : decode mX7_readLine.2.1 97 = .ok (.invokevirtual 64, 3) := by decide +kernel
theorem dX7_readLine_100 : decode mX7_readLine.2.1 100 = .ok (.istore_n 3, 1) := by decide +kernel
theorem dX7_readLine_101 : decode mX7_readLine.2.1 101 = .ok (.iload_n 3, 1) := by decide +kernel
theorem dX7_readLine_102 : decode mX7_readLine.2.1 102 = .ok (.getstatic 67, 3) := by decide +kernel
theorem dX7_readLine_105 : decode mX7_readLine.2.1 105 = .ok (.iload_n 2, 1) := by decide +kernel
theorem dX7_readLine_106 : decode mX7_readLine.2.1 106 = .ok (.iaload, 1) := by decide +kernel
theorem dX7_readLine_107 : decode mX7_readLine.2.1 107 = .ok (.if_icmp .lt 12, 3) := by decide +kernel
theorem dX7_readLine_110 : decode mX7_readLine.2.1 110 = .ok (.iload_n 3, 1) := by decide +kernel
theorem dX7_readLine_111 : decode mX7_readLine.2.1 111 = .ok (.getstatic 70, 3) := by decide +kernel
theorem dX7_readLine_114 : decode mX7_readLine.2.1 114 = .ok (.iload_n 2, 1) := by decide +kernel
theorem dX7_readLine_115 : decode mX7_readLine.2.1 115 = .ok (.iaload, 1) := by decide +kernel
theorem dX7_readLine_116 : decode mX7_readLine.2.1 116 = .ok (.if_icmp .le 9, 3) := by decide +kernel
theorem dX7_readLine_119 : decode mX7_readLine.2.1 119 = .ok (.iload_n 1, 1) := by decide +kernel
theorem dX7_readLine_120 : decode mX7_readLine.2.1 120 = .ok (.iconst 2, 1) := by decide +kernel
theorem dX7_readLine_121 : decode mX7_readLine.2.1 121 = .ok (.invokestatic 54, 3) := by decide +kernel
theorem dX7_readLine_124 : decode mX7_readLine.2.1 124 = .ok (.ireturn, 1) := by decide +kernel
theorem dX7_readLine_125 : decode mX7_readLine.2.1 125 = .ok (.aload_n 0, 1) := by decide +kernel
theorem dX7_readLine_126 : decode mX7_readLine.2.1 126 = .ok (.getfield 12, 3) := by decide +kernel
theorem dX7_readLine_129 : decode mX7_readLine.2.1 129 = .ok (.iload_n 2, 1) := by decide +kernel
theorem dX7_readLine_130 : decode mX7_readLine.2.1 130 = .ok (.iload_n 3, 1) := by decide +kernel
theorem dX7_readLine_131 : decode mX7_readLine.2.1 131 = .ok (.invokevirtual 73, 3) := by decide +kernel
theorem dX7_readLine_134 : decode mX7_readLine.2.1 134 = .ok (.iconst 0, 1) := by decide +kernel
theorem dX7_readLine_135 : decode mX7_readLine.2.1 135 = .ok (.ireturn, 1) := by decide +kernel
theorem dX7_skipBetween_0 : decode mX7_skipBetween.2.1 0 = .ok (.aload_n 0, 1) := by decide +kernel
theorem dX7_skipBetween_1 : decode mX7_skipBetween.2.1 1 = .ok (.getfield 29, 3) := by decide +kernel
theorem dX7_skipBetween_4 : decode mX7_skipBetween.2.1 4 = .ok (.aload_n 0, 1) := by decide +kernel
theorem dX7_skipBetween_5 : decode mX7_skipBetween.2.1 5 = .ok (.getfield 25, 3) := by decide +kernel
theorem dX7_skipBetween_8 : decode mX7_skipBetween.2.1 8 = .ok (.if_icmp .ge 42, 3) := by decide +kernel
theorem dX7_skipBetween_11 : decode mX7_skipBetween.2.1 11 = .ok (.aload_n 0, 1) := by decide +kernel
theorem dX7_skipBetween_12 : decode mX7_skipBetween.2.1 12 = .ok (.getfield 22, 3) := by decide +kernel
theorem dX7_skipBetween_15 : decode mX7_skipBetween.2.1 15 = .ok (.aload_n 0, 1) := by decide +kernel
theorem dX7_skipBetween_16 : decode mX7_skipBetween.2.1 16 = .ok (.getfield 29, 3) := by decide +kernel
theorem dX7_skipBetween_19 : decode mX7_skipBetween.2.1 19 = .ok (.iaload, 1) := by decide +kernel
theorem dX7_skipBetween_20 : decode mX7_skipBetween.2.1 20 = .ok (.iload_n 1, 1) := by decide +kernel
theorem dX7_skipBetween_21 : decode mX7_skipBetween.2.1 21 = .ok (.if_icmp .lt 29, 3) := by decide +kernel
theorem dX7_skipBetween_24 : decode mX7_skipBetween.2.1 24 = .ok (.aload_n 0, 1) := by decide +kernel
theorem dX7_skipBetween_25 : decode mX7_skipBetween.2.1 25 = .ok (.getfield 22, 3) := by decide +kernel
theorem dX7_skipBetween_28 : decode mX7_skipBetween.2.1 28 = .ok (.aload_n 0, 1) := by decide +kernel
theorem dX7_skipBetween_29 : decode mX7_skipBetween.2.1 29 = .ok (.getfield 29, 3) := by decide +kernel
theorem dX7_skipBetween_32 : decode mX7_skipBetween.2.1 32 = .ok (.iaload, 1) := by decide +kernel
theorem dX7_skipBetween_33 : decode mX7_skipBetween.2.1 33 = .ok (.iload_n 2, 1) := by decide +kernel
theorem dX7_skipBetween_34 : decode mX7_skipBetween.2.1 34 = .ok (.if_icmp .gt 16, 3) := by decide +kernel
theorem dX7_skipBetween_37 : decode mX7_skipBetween.2.1 37 = .ok (.aload_n 0, 1) := by decide +kernel
theorem dX7_skipBetween_38 : decode mX7_skipBetween.2.1 38 = .ok (.dup, 1) := by decide +kernel
theorem dX7_skipBetween_39 : decode mX7_skipBetween.2.1 39 = .ok (.getfield 29, 3) := by decide +kernel
theorem dX7_skipBetween_42 : decode mX7_skipBetween.2.1 42 = .ok (.iconst 1, 1) := by decide +kernel
theorem dX7_skipBetween_43 : decode mX7_skipBetween.2.1 43 = .ok (.iadd, 1) := by decide +kernel
theorem dX7_skipBetween_44 : decode mX7_skipBetween.2.1 44 = .ok (.putfield 29, 3) := by decide +kernel
theorem dX7_skipBetween_47 : decode mX7_skipBetween.2.1 47 = .ok (.goto (-47), 3) := by decide +kernel
theorem dX7_skipBetween_50 : decode mX7_skipBetween.2.1 50 = .ok (.return_, 1) := by decide +kernel
theorem dX7_skipBlanks_0 : decode mX7_skipBlanks.2.1 0 = .ok (.aload_n 0, 1) := by decide +kernel
theorem dX7_skipBlanks_1 : decode mX7_skipBlanks.2.1 1 = .ok (.bipush 32, 2) := by decide +kernel
theorem dX7_skipBlanks_3 : decode mX7_skipBlanks.2.1 3 = .ok (.bipush 32, 2) := by decide +kernel
theorem dX7_skipBlanks_5 : decode mX7_skipBlanks.2.1 5 = .ok (.invokevirtual 57, 3) := by decide +kernel
theorem dX7_skipBlanks_8 : decode mX7_skipBlanks.2.1 8 = .ok (.return_, 1) := by decide +kernel
theorem dX7_wordAlong_0 : decode mX7_wordAlong.2.1 0 = .ok (.iconst 0, 1) := by decide +kernel
theorem dX7_wordAlong_1 : decode mX7_wordAlong.2.1 1 = .ok (.istore_n 3, 1) := by decide +kernel
theorem dX7_wordAlong_2 : decode mX7_wordAlong.2.1 2 = .ok (.iload_n 3, 1) := by decide +kernel
theorem dX7_wordAlong_3 : decode mX7_wordAlong.2.1 3 = .ok (.bipush 9, 2) := by decide +kernel
theorem dX7_wordAlong_5 : decode mX7_wordAlong.2.1 5 = .ok (.if_icmp .ge 24, 3) := by decide +kernel
theorem dX7_wordAlong_8 : decode mX7_wordAlong.2.1 8 = .ok (.aload_n 0, 1) := by decide +kernel
theorem dX7_wordAlong_9 : decode mX7_wordAlong.2.1 9 = .ok (.iload_n 3, 1) := by decide +kernel
theorem dX7_wordAlong_10 : decode mX7_wordAlong.2.1 10 = .ok (.invokestatic 77, 3) := by decide +kernel
theorem dX7_wordAlong_13 : decode mX7_wordAlong.2.1 13 = .ok (.iload_n 1, 1) := by decide +kernel
theorem dX7_wordAlong_14 : decode mX7_wordAlong.2.1 14 = .ok (.iload_n 2, 1) := by decide +kernel
theorem dX7_wordAlong_15 : decode mX7_wordAlong.2.1 15 = .ok (.invokevirtual 81, 3) := by decide +kernel
theorem dX7_wordAlong_18 : decode mX7_wordAlong.2.1 18 = .ok (.ifCond .eq 5, 3) := by decide +kernel
theorem dX7_wordAlong_21 : decode mX7_wordAlong.2.1 21 = .ok (.iload_n 3, 1) := by decide +kernel
theorem dX7_wordAlong_22 : decode mX7_wordAlong.2.1 22 = .ok (.ireturn, 1) := by decide +kernel
theorem dX7_wordAlong_23 : decode mX7_wordAlong.2.1 23 = .ok (.iinc 3 1, 3) := by decide +kernel
theorem dX7_wordAlong_26 : decode mX7_wordAlong.2.1 26 = .ok (.goto (-24), 3) := by decide +kernel
theorem dX7_wordAlong_29 : decode mX7_wordAlong.2.1 29 = .ok (.iconst (-1), 1) := by decide +kernel
theorem dX7_wordAlong_30 : decode mX7_wordAlong.2.1 30 = .ok (.ireturn, 1) := by decide +kernel
theorem dX7_wordOf_0 : decode mX7_wordOf.2.1 0 = .ok (.iload_n 0, 1) := by decide +kernel
theorem dX7_wordOf_1 : decode mX7_wordOf.2.1 1 = .ok (.tableswitch 71 0 7 #[47, 50, 53, 56, 59, 62, 65, 68], 47) := by decide +kernel
theorem dX7_wordOf_48 : decode mX7_wordOf.2.1 48 = .ok (.ldc 94, 2) := by decide +kernel
theorem dX7_wordOf_50 : decode mX7_wordOf.2.1 50 = .ok (.areturn, 1) := by decide +kernel
theorem dX7_wordOf_51 : decode mX7_wordOf.2.1 51 = .ok (.ldc 96, 2) := by decide +kernel
theorem dX7_wordOf_53 : decode mX7_wordOf.2.1 53 = .ok (.areturn, 1) := by decide +kernel
theorem dX7_wordOf_54 : decode mX7_wordOf.2.1 54 = .ok (.ldc 98, 2) := by decide +kernel
theorem dX7_wordOf_56 : decode mX7_wordOf.2.1 56 = .ok (.areturn, 1) := by decide +kernel
theorem dX7_wordOf_57 : decode mX7_wordOf.2.1 57 = .ok (.ldc 100, 2) := by decide +kernel
theorem dX7_wordOf_59 : decode mX7_wordOf.2.1 59 = .ok (.areturn, 1) := by decide +kernel
theorem dX7_wordOf_60 : decode mX7_wordOf.2.1 60 = .ok (.ldc 102, 2) := by decide +kernel
theorem dX7_wordOf_62 : decode mX7_wordOf.2.1 62 = .ok (.areturn, 1) := by decide +kernel
theorem dX7_wordOf_63 : decode mX7_wordOf.2.1 63 = .ok (.ldc 104, 2) := by decide +kernel
theorem dX7_wordOf_65 : decode mX7_wordOf.2.1 65 = .ok (.areturn, 1) := by decide +kernel
theorem dX7_wordOf_66 : decode mX7_wordOf.2.1 66 = .ok (.ldc 106, 2) := by decide +kernel
theorem dX7_wordOf_68 : decode mX7_wordOf.2.1 68 = .ok (.areturn, 1) := by decide +kernel
theorem dX7_wordOf_69 : decode mX7_wordOf.2.1 69 = .ok (.ldc 108, 2) := by decide +kernel
theorem dX7_wordOf_71 : decode mX7_wordOf.2.1 71 = .ok (.areturn, 1) := by decide +kernel
theorem dX7_wordOf_72 : decode mX7_wordOf.2.1 72 = .ok (.ldc 110, 2) := by decide +kernel
theorem dX7_wordOf_74 : decode mX7_wordOf.2.1 74 = .ok (.areturn, 1) := by decide +kernel
theorem dX8_addFinals_0 : decode mX8_addFinals.2.1 0 = .ok (.iconst 0, 1) := by decide +kernel
theorem dX8_addFinals_1 : decode mX8_addFinals.2.1 1 = .ok (.istore_n 3, 1) := by decide +kernel
theorem dX8_addFinals_2 : decode mX8_addFinals.2.1 2 = .ok (.iload_n 3, 1) := by decide +kernel
theorem dX8_addFinals_3 : decode mX8_addFinals.2.1 3 = .ok (.aload_n 1, 1) := by decide +kernel
theorem dX8_addFinals_4 : decode mX8_addFinals.2.1 4 = .ok (.getfield 59, 3) := by decide +kernel
theorem dX8_addFinals_7 : decode mX8_addFinals.2.1 7 = .ok (.if_icmp .ge 26, 3) := by decide +kernel
theorem dX8_addFinals_10 : decode mX8_addFinals.2.1 10 = .ok (.aload_n 1, 1) := by decide +kernel
theorem dX8_addFinals_11 : decode mX8_addFinals.2.1 11 = .ok (.getfield 64, 3) := by decide +kernel
theorem dX8_addFinals_14 : decode mX8_addFinals.2.1 14 = .ok (.iload_n 3, 1) := by decide +kernel
theorem dX8_addFinals_15 : decode mX8_addFinals.2.1 15 = .ok (.iload_n 2, 1) := by decide +kernel
theorem dX8_addFinals_16 : decode mX8_addFinals.2.1 16 = .ok (.aload_n 0, 1) := by decide +kernel
theorem dX8_addFinals_17 : decode mX8_addFinals.2.1 17 = .ok (.getfield 19, 3) := by decide +kernel
theorem dX8_addFinals_20 : decode mX8_addFinals.2.1 20 = .ok (.invokestatic 67, 3) := by decide +kernel
theorem dX8_addFinals_23 : decode mX8_addFinals.2.1 23 = .ok (.aload_n 0, 1) := by decide +kernel
theorem dX8_addFinals_24 : decode mX8_addFinals.2.1 24 = .ok (.invokevirtual 44, 3) := by decide +kernel
theorem dX8_addFinals_27 : decode mX8_addFinals.2.1 27 = .ok (.iinc 3 1, 3) := by decide +kernel
theorem dX8_addFinals_30 : decode mX8_addFinals.2.1 30 = .ok (.goto (-28), 3) := by decide +kernel
theorem dX8_addFinals_33 : decode mX8_addFinals.2.1 33 = .ok (.return_, 1) := by decide +kernel
theorem dX8_addKnown_0 : decode mX8_addKnown.2.1 0 = .ok (.iconst 0, 1) := by decide +kernel
theorem dX8_addKnown_1 : decode mX8_addKnown.2.1 1 = .ok (.istore_n 2, 1) := by decide +kernel
theorem dX8_addKnown_2 : decode mX8_addKnown.2.1 2 = .ok (.iload_n 2, 1) := by decide +kernel
theorem dX8_addKnown_3 : decode mX8_addKnown.2.1 3 = .ok (.aload_n 1, 1) := by decide +kernel
theorem dX8_addKnown_4 : decode mX8_addKnown.2.1 4 = .ok (.getfield 47, 3) := by decide +kernel
theorem dX8_addKnown_7 : decode mX8_addKnown.2.1 7 = .ok (.if_icmp .ge 28, 3) := by decide +kernel
theorem dX8_addKnown_10 : decode mX8_addKnown.2.1 10 = .ok (.aload_n 1, 1) := by decide +kernel
theorem dX8_addKnown_11 : decode mX8_addKnown.2.1 11 = .ok (.getfield 52, 3) := by decide +kernel
theorem dX8_addKnown_14 : decode mX8_addKnown.2.1 14 = .ok (.iload_n 2, 1) := by decide +kernel
theorem dX8_addKnown_15 : decode mX8_addKnown.2.1 15 = .ok (.iaload, 1) := by decide +kernel
theorem dX8_addKnown_16 : decode mX8_addKnown.2.1 16 = .ok (.iconst 1, 1) := by decide +kernel
theorem dX8_addKnown_17 : decode mX8_addKnown.2.1 17 = .ok (.if_icmp .ne 12, 3) := by decide +kernel
theorem dX8_addKnown_20 : decode mX8_addKnown.2.1 20 = .ok (.aload_n 0, 1) := by decide +kernel
theorem dX8_addKnown_21 : decode mX8_addKnown.2.1 21 = .ok (.iload_n 2, 1) := by decide +kernel
theorem dX8_addKnown_22 : decode mX8_addKnown.2.1 22 = .ok (.invokevirtual 55, 3) := by decide +kernel
theorem dX8_addKnown_25 : decode mX8_addKnown.2.1 25 = .ok (.aload_n 0, 1) := by decide +kernel
theorem dX8_addKnown_26 : decode mX8_addKnown.2.1 26 = .ok (.invokevirtual 44, 3) := by decide +kernel
theorem dX8_addKnown_29 : decode mX8_addKnown.2.1 29 = .ok (.iinc 2 1, 3) := by decide +kernel
theorem dX8_addKnown_32 : decode mX8_addKnown.2.1 32 = .ok (.goto (-30), 3) := by decide +kernel
theorem dX8_addKnown_35 : decode mX8_addKnown.2.1 35 = .ok (.return_, 1) := by decide +kernel
theorem dX8_addLedger_0 : decode mX8_addLedger.2.1 0 = .ok (.iconst 0, 1) := by decide +kernel
theorem dX8_addLedger_1 : decode mX8_addLedger.2.1 1 = .ok (.istore_n 2, 1) := by decide +kernel
theorem dX8_addLedger_2 : decode mX8_addLedger.2.1 2 = .ok (.iload_n 2, 1) := by decide +kernel
theorem dX8_addLedger_3 : decode mX8_addLedger.2.1 3 = .ok (.aload_n 1, 1) := by decide +kernel
theorem dX8_addLedger_4 : decode mX8_addLedger.2.1 4 = .ok (.getfield 32, 3) := by decide +kernel
theorem dX8_addLedger_7 : decode mX8_addLedger.2.1 7 = .ok (.if_icmp .ge 29, 3) := by decide +kernel
theorem dX8_addLedger_10 : decode mX8_addLedger.2.1 10 = .ok (.aload_n 1, 1) := by decide +kernel
theorem dX8_addLedger_11 : decode mX8_addLedger.2.1 11 = .ok (.getfield 35, 3) := by decide +kernel
theorem dX8_addLedger_14 : decode mX8_addLedger.2.1 14 = .ok (.iload_n 2, 1) := by decide +kernel
theorem dX8_addLedger_15 : decode mX8_addLedger.2.1 15 = .ok (.iconst 4, 1) := by decide +kernel
theorem dX8_addLedger_16 : decode mX8_addLedger.2.1 16 = .ok (.imul, 1) := by decide +kernel
theorem dX8_addLedger_17 : decode mX8_addLedger.2.1 17 = .ok (.aload_n 0, 1) := by decide +kernel
theorem dX8_addLedger_18 : decode mX8_addLedger.2.1 18 = .ok (.getfield 19, 3) := by decide +kernel
theorem dX8_addLedger_21 : decode mX8_addLedger.2.1 21 = .ok (.iconst 0, 1) := by decide +kernel
theorem dX8_addLedger_22 : decode mX8_addLedger.2.1 22 = .ok (.iconst 4, 1) := by decide +kernel
theorem dX8_addLedger_23 : decode mX8_addLedger.2.1 23 = .ok (.invokestatic 38, 3) := by decide +kernel
theorem dX8_addLedger_26 : decode mX8_addLedger.2.1 26 = .ok (.aload_n 0, 1) := by decide +kernel
theorem dX8_addLedger_27 : decode mX8_addLedger.2.1 27 = .ok (.invokevirtual 44, 3) := by decide +kernel
theorem dX8_addLedger_30 : decode mX8_addLedger.2.1 30 = .ok (.iinc 2 1, 3) := by decide +kernel
theorem dX8_addLedger_33 : decode mX8_addLedger.2.1 33 = .ok (.goto (-31), 3) := by decide +kernel
theorem dX8_addLedger_36 : decode mX8_addLedger.2.1 36 = .ok (.return_, 1) := by decide +kernel
theorem dX8_addWork_0 : decode mX8_addWork.2.1 0 = .ok (.aload_n 0, 1) := by decide +kernel
theorem dX8_addWork_1 : decode mX8_addWork.2.1 1 = .ok (.invokevirtual 73, 3) := by decide +kernel
theorem dX8_addWork_4 : decode mX8_addWork.2.1 4 = .ok (.istore_n 1, 1) := by decide +kernel
theorem dX8_addWork_5 : decode mX8_addWork.2.1 5 = .ok (.iload_n 1, 1) := by decide +kernel
theorem dX8_addWork_6 : decode mX8_addWork.2.1 6 = .ok (.iconst (-1), 1) := by decide +kernel
theorem dX8_addWork_7 : decode mX8_addWork.2.1 7 = .ok (.if_icmp .eq 36, 3) := by decide +kernel
theorem dX8_addWork_10 : decode mX8_addWork.2.1 10 = .ok (.aload_n 0, 1) := by decide +kernel
theorem dX8_addWork_11 : decode mX8_addWork.2.1 11 = .ok (.getfield 19, 3) := by decide +kernel
theorem dX8_addWork_14 : decode mX8_addWork.2.1 14 = .ok (.iconst 0, 1) := by decide +kernel
theorem dX8_addWork_15 : decode mX8_addWork.2.1 15 = .ok (.aload_n 0, 1) := by decide +kernel
theorem dX8_addWork_16 : decode mX8_addWork.2.1 16 = .ok (.getfield 9, 3) := by decide +kernel
theorem dX8_addWork_19 : decode mX8_addWork.2.1 19 = .ok (.iload_n 1, 1) := by decide +kernel
theorem dX8_addWork_20 : decode mX8_addWork.2.1 20 = .ok (.iconst 4, 1) := by decide +kernel
theorem dX8_addWork_21 : decode mX8_addWork.2.1 21 = .ok (.imul, 1) := by decide +kernel
theorem dX8_addWork_22 : decode mX8_addWork.2.1 22 = .ok (.iconst 4, 1) := by decide +kernel
theorem dX8_addWork_23 : decode mX8_addWork.2.1 23 = .ok (.invokestatic 38, 3) := by decide +kernel
theorem dX8_addWork_26 : decode mX8_addWork.2.1 26 = .ok (.aload_n 0, 1) := by decide +kernel
theorem dX8_addWork_27 : decode mX8_addWork.2.1 27 = .ok (.getfield 15, 3) := by decide +kernel
theorem dX8_addWork_30 : decode mX8_addWork.2.1 30 = .ok (.iload_n 1, 1) := by decide +kernel
theorem dX8_addWork_31 : decode mX8_addWork.2.1 31 = .ok (.iconst 1, 1) := by decide +kernel
theorem dX8_addWork_32 : decode mX8_addWork.2.1 32 = .ok (.iastore, 1) := by decide +kernel
theorem dX8_addWork_33 : decode mX8_addWork.2.1 33 = .ok (.aload_n 0, 1) := by decide +kernel
theorem dX8_addWork_34 : decode mX8_addWork.2.1 34 = .ok (.dup, 1) := by decide +kernel
theorem dX8_addWork_35 : decode mX8_addWork.2.1 35 = .ok (.getfield 22, 3) := by decide +kernel
theorem dX8_addWork_38 : decode mX8_addWork.2.1 38 = .ok (.iconst 1, 1) := by decide +kernel
theorem dX8_addWork_39 : decode mX8_addWork.2.1 39 = .ok (.iadd, 1) := by decide +kernel
theorem dX8_addWork_40 : decode mX8_addWork.2.1 40 = .ok (.putfield 22, 3) := by decide +kernel
theorem dX8_addWork_43 : decode mX8_addWork.2.1 43 = .ok (.return_, 1) := by decide +kernel
theorem dX8_clear_0 : decode mX8_clear.2.1 0 = .ok (.aload_n 0, 1) := by decide +kernel
theorem dX8_clear_1 : decode mX8_clear.2.1 1 = .ok (.getfield 15, 3) := by decide +kernel
theorem dX8_clear_4 : decode mX8_clear.2.1 4 = .ok (.iconst 0, 1) := by decide +kernel
theorem dX8_clear_5 : decode mX8_clear.2.1 5 = .ok (.invokestatic 26, 3) := by decide +kernel
theorem dX8_clear_8 : decode mX8_clear.2.1 8 = .ok (.aload_n 0, 1) := by decide +kernel
theorem dX8_clear_9 : decode mX8_clear.2.1 9 = .ok (.iconst 0, 1) := by decide +kernel
theorem dX8_clear_10 : decode mX8_clear.2.1 10 = .ok (.putfield 22, 3) := by decide +kernel
theorem dX8_clear_13 : decode mX8_clear.2.1 13 = .ok (.return_, 1) := by decide +kernel
theorem dX8_holdsPlace_0 : decode mX8_holdsPlace.2.1 0 = .ok (.aload_n 0, 1) := by decide +kernel
theorem dX8_holdsPlace_1 : decode mX8_holdsPlace.2.1 1 = .ok (.iload_n 1, 1) := by decide +kernel
theorem dX8_holdsPlace_2 : decode mX8_holdsPlace.2.1 2 = .ok (.invokevirtual 55, 3) := by decide +kernel
theorem dX8_holdsPlace_5 : decode mX8_holdsPlace.2.1 5 = .ok (.aload_n 0, 1) := by decide +kernel
theorem dX8_holdsPlace_6 : decode mX8_holdsPlace.2.1 6 = .ok (.invokevirtual 73, 3) := by decide +kernel
theorem dX8_holdsPlace_9 : decode mX8_holdsPlace.2.1 9 = .ok (.iconst (-1), 1) := by decide +kernel
theorem dX8_holdsPlace_10 : decode mX8_holdsPlace.2.1 10 = .ok (.if_icmp .ne 7, 3) := by decide +kernel
theorem dX8_holdsPlace_13 : decode mX8_holdsPlace.2.1 13 = .ok (.iconst 1, 1) := by decide +kernel
theorem dX8_holdsPlace_14 : decode mX8_holdsPlace.2.1 14 = .ok (.goto 4, 3) := by decide +kernel
theorem dX8_holdsPlace_17 : decode mX8_holdsPlace.2.1 17 = .ok (.iconst 0, 1) := by decide +kernel
theorem dX8_holdsPlace_18 : decode mX8_holdsPlace.2.1 18 = .ok (.ireturn, 1) := by decide +kernel
theorem dX8_init_0 : decode mX8_init.2.1 0 = .ok (.aload_n 0, 1) := by decide +kernel
theorem dX8_init_1 : decode mX8_init.2.1 1 = .ok (.invokespecial 3, 3) := by decide +kernel
theorem dX8_init_4 : decode mX8_init.2.1 4 = .ok (.aload_n 0, 1) := by decide +kernel
theorem dX8_init_5 : decode mX8_init.2.1 5 = .ok (.sipush 1024, 3) := by decide +kernel
theorem dX8_init_8 : decode mX8_init.2.1 8 = .ok (.newarray .long, 2) := by decide +kernel
theorem dX8_init_10 : decode mX8_init.2.1 10 = .ok (.putfield 9, 3) := by decide +kernel
theorem dX8_init_13 : decode mX8_init.2.1 13 = .ok (.aload_n 0, 1) := by decide +kernel
theorem dX8_init_14 : decode mX8_init.2.1 14 = .ok (.sipush 256, 3) := by decide +kernel
theorem dX8_init_17 : decode mX8_init.2.1 17 = .ok (.newarray .int, 2) := by decide +kernel
theorem dX8_init_19 : decode mX8_init.2.1 19 = .ok (.putfield 15, 3) := by decide +kernel
theorem dX8_init_22 : decode mX8_init.2.1 22 = .ok (.aload_n 0, 1) := by decide +kernel
theorem dX8_init_23 : decode mX8_init.2.1 23 = .ok (.iconst 4, 1) := by decide +kernel
theorem dX8_init_24 : decode mX8_init.2.1 24 = .ok (.newarray .long, 2) := by decide +kernel
theorem dX8_init_26 : decode mX8_init.2.1 26 = .ok (.putfield 19, 3) := by decide +kernel
theorem dX8_init_29 : decode mX8_init.2.1 29 = .ok (.aload_n 0, 1) := by decide +kernel
theorem dX8_init_30 : decode mX8_init.2.1 30 = .ok (.iconst 0, 1) := by decide +kernel
theorem dX8_init_31 : decode mX8_init.2.1 31 = .ok (.putfield 22, 3) := by decide +kernel
theorem dX8_init_34 : decode mX8_init.2.1 34 = .ok (.return_, 1) := by decide +kernel
theorem dX8_reduceWork_0 : decode mX8_reduceWork.2.1 0 = .ok (.iconst 0, 1) := by decide +kernel
theorem dX8_reduceWork_1 : decode mX8_reduceWork.2.1 1 = .ok (.istore_n 1, 1) := by decide +kernel
theorem dX8_reduceWork_2 : decode mX8_reduceWork.2.1 2 = .ok (.iload_n 1, 1) := by decide +kernel
theorem dX8_reduceWork_3 : decode mX8_reduceWork.2.1 3 = .ok (.iconst 4, 1) := by decide +kernel
theorem dX8_reduceWork_4 : decode mX8_reduceWork.2.1 4 = .ok (.if_icmp .ge 106, 3) := by decide +kernel
theorem dX8_reduceWork_7 : decode mX8_reduceWork.2.1 7 = .ok (.iconst 0, 1) := by decide +kernel
theorem dX8_reduceWork_8 : decode mX8_reduceWork.2.1 8 = .ok (.istore_n 2, 1) := by decide +kernel
theorem dX8_reduceWork_9 : decode mX8_reduceWork.2.1 9 = .ok (.iload_n 2, 1) := by decide +kernel
theorem dX8_reduceWork_10 : decode mX8_reduceWork.2.1 10 = .ok (.bipush 64, 2) := by decide +kernel
theorem dX8_reduceWork_12 : decode mX8_reduceWork.2.1 12 = .ok (.if_icmp .ge 92, 3) := by decide +kernel
theorem dX8_reduceWork_15 : decode mX8_reduceWork.2.1 15 = .ok (.aload_n 0, 1) := by decide +kernel
theorem dX8_reduceWork_16 : decode mX8_reduceWork.2.1 16 = .ok (.getfield 19, 3) := by decide +kernel
theorem dX8_reduceWork_19 : decode mX8_reduceWork.2.1 19 = .ok (.iload_n 1, 1) := by decide +kernel
theorem dX8_reduceWork_20 : decode mX8_reduceWork.2.1 20 = .ok (.laload, 1) := by decide +kernel
theorem dX8_reduceWork_21 : decode mX8_reduceWork.2.1 21 = .ok (.lconst 0, 1) := by decide +kernel
theorem dX8_reduceWork_22 : decode mX8_reduceWork.2.1 22 = .ok (.lcmp, 1) := by decide +kernel
theorem dX8_reduceWork_23 : decode mX8_reduceWork.2.1 23 = .ok (.ifCond .eq 81, 3) := by decide +kernel
theorem dX8_reduceWork_26 : decode mX8_reduceWork.2.1 26 = .ok (.bipush 64, 2) := by decide +kernel
theorem dX8_reduceWork_28 : decode mX8_reduceWork.2.1 28 = .ok (.iload_n 1, 1) := by decide +kernel
theorem dX8_reduceWork_29 : decode mX8_reduceWork.2.1 29 = .ok (.imul, 1) := by decide +kernel
theorem dX8_reduceWork_30 : decode mX8_reduceWork.2.1 30 = .ok (.aload_n 0, 1) := by decide +kernel
theorem dX8_reduceWork_31 : decode mX8_reduceWork.2.1 31 = .ok (.getfield 19, 3) := by decide +kernel
theorem dX8_reduceWork_34 : decode mX8_reduceWork.2.1 34 = .ok (.iload_n 1, 1) := by decide +kernel
theorem dX8_reduceWork_35 : decode mX8_reduceWork.2.1 35 = .ok (.laload, 1) := by decide +kernel
theorem dX8_reduceWork_36 : decode mX8_reduceWork.2.1 36 = .ok (.aload_n 0, 1) := by decide +kernel
theorem dX8_reduceWork_37 : decode mX8_reduceWork.2.1 37 = .ok (.getfield 19, 3) := by decide +kernel
theorem dX8_reduceWork_40 : decode mX8_reduceWork.2.1 40 = .ok (.iload_n 1, 1) := by decide +kernel
theorem dX8_reduceWork_41 : decode mX8_reduceWork.2.1 41 = .ok (.laload, 1) := by decide +kernel
theorem dX8_reduceWork_42 : decode mX8_reduceWork.2.1 42 = .ok (.lneg, 1) := by decide +kernel
theorem dX8_reduceWork_43 : decode mX8_reduceWork.2.1 43 = .ok (.land, 1) := by decide +kernel
theorem dX8_reduceWork_44 : decode mX8_reduceWork.2.1 44 = .ok (.lconst 1, 1) := by decide +kernel
theorem dX8_reduceWork_45 : decode mX8_reduceWork.2.1 45 = .ok (.lsub, 1) := by decide +kernel
theorem dX8_reduceWork_46 : decode mX8_reduceWork.2.1 46 = .ok (.invokestatic 80, 3) := by decide +kernel
theorem dX8_reduceWork_49 : decode mX8_reduceWork.2.1 49 = .ok (.iadd, 1) := by decide +kernel
theorem dX8_reduceWork_50 : decode mX8_reduceWork.2.1 50 = .ok (.istore_n 3, 1) := by decide +kernel
theorem dX8_reduceWork_51 : decode mX8_reduceWork.2.1 51 = .ok (.aload_n 0, 1) := by decide +kernel
theorem dX8_reduceWork_52 : decode mX8_reduceWork.2.1 52 = .ok (.getfield 15, 3) := by decide +kernel
theorem dX8_reduceWork_55 : decode mX8_reduceWork.2.1 55 = .ok (.iload_n 3, 1) := by decide +kernel
theorem dX8_reduceWork_56 : decode mX8_reduceWork.2.1 56 = .ok (.iaload, 1) := by decide +kernel
theorem dX8_reduceWork_57 : decode mX8_reduceWork.2.1 57 = .ok (.ifCond .ne 5, 3) := by decide +kernel
theorem dX8_reduceWork_60 : decode mX8_reduceWork.2.1 60 = .ok (.iload_n 3, 1) := by decide +kernel
theorem dX8_reduceWork_61 : decode mX8_reduceWork.2.1 61 = .ok (.ireturn, 1) := by decide +kernel
theorem dX8_reduceWork_62 : decode mX8_reduceWork.2.1 62 = .ok (.iload_n 1, 1) := by decide +kernel
theorem dX8_reduceWork_63 : decode mX8_reduceWork.2.1 63 = .ok (.istore 4, 2) := by decide +kernel
theorem dX8_reduceWork_65 : decode mX8_reduceWork.2.1 65 = .ok (.iload 4, 2) := by decide +kernel
theorem dX8_reduceWork_67 : decode mX8_reduceWork.2.1 67 = .ok (.iconst 4, 1) := by decide +kernel
theorem dX8_reduceWork_68 : decode mX8_reduceWork.2.1 68 = .ok (.if_icmp .ge 30, 3) := by decide +kernel
theorem dX8_reduceWork_71 : decode mX8_reduceWork.2.1 71 = .ok (.aload_n 0, 1) := by decide +kernel
theorem dX8_reduceWork_72 : decode mX8_reduceWork.2.1 72 = .ok (.getfield 19, 3) := by decide +kernel
theorem dX8_reduceWork_75 : decode mX8_reduceWork.2.1 75 = .ok (.iload 4, 2) := by decide +kernel
theorem dX8_reduceWork_77 : decode mX8_reduceWork.2.1 77 = .ok (.dup2, 1) := by decide +kernel
theorem dX8_reduceWork_78 : decode mX8_reduceWork.2.1 78 = .ok (.laload, 1) := by decide +kernel
theorem dX8_reduceWork_79 : decode mX8_reduceWork.2.1 79 = .ok (.aload_n 0, 1) := by decide +kernel
theorem dX8_reduceWork_80 : decode mX8_reduceWork.2.1 80 = .ok (.getfield 9, 3) := by decide +kernel
theorem dX8_reduceWork_83 : decode mX8_reduceWork.2.1 83 = .ok (.iload_n 3, 1) := by decide +kernel
theorem dX8_reduceWork_84 : decode mX8_reduceWork.2.1 84 = .ok (.iconst 4, 1) := by decide +kernel
theorem dX8_reduceWork_85 : decode mX8_reduceWork.2.1 85 = .ok (.imul, 1) := by decide +kernel
theorem dX8_reduceWork_86 : decode mX8_reduceWork.2.1 86 = .ok (.iload 4, 2) := by decide +kernel
theorem dX8_reduceWork_88 : decode mX8_reduceWork.2.1 88 = .ok (.iadd, 1) := by decide +kernel
theorem dX8_reduceWork_89 : decode mX8_reduceWork.2.1 89 = .ok (.laload, 1) := by decide +kernel
theorem dX8_reduceWork_90 : decode mX8_reduceWork.2.1 90 = .ok (.lxor, 1) := by decide +kernel
theorem dX8_reduceWork_91 : decode mX8_reduceWork.2.1 91 = .ok (.lastore, 1) := by decide +kernel
theorem dX8_reduceWork_92 : decode mX8_reduceWork.2.1 92 = .ok (.iinc 4 1, 3) := by decide +kernel
theorem dX8_reduceWork_95 : decode mX8_reduceWork.2.1 95 = .ok (.goto (-30), 3) := by decide +kernel
theorem dX8_reduceWork_98 : decode mX8_reduceWork.2.1 98 = .ok (.iinc 2 1, 3) := by decide +kernel
theorem dX8_reduceWork_101 : decode mX8_reduceWork.2.1 101 = .ok (.goto (-92), 3) := by decide +kernel
theorem dX8_reduceWork_104 : decode mX8_reduceWork.2.1 104 = .ok (.iinc 1 1, 3) := by decide +kernel
theorem dX8_reduceWork_107 : decode mX8_reduceWork.2.1 107 = .ok (.goto (-105), 3) := by decide +kernel
theorem dX8_reduceWork_110 : decode mX8_reduceWork.2.1 110 = .ok (.iconst (-1), 1) := by decide +kernel
theorem dX8_reduceWork_111 : decode mX8_reduceWork.2.1 111 = .ok (.ireturn, 1) := by decide +kernel
theorem dX8_setPlace_0 : decode mX8_setPlace.2.1 0 = .ok (.aload_n 0, 1) := by decide +kernel
theorem dX8_setPlace_1 : decode mX8_setPlace.2.1 1 = .ok (.getfield 19, 3) := by decide +kernel
theorem dX8_setPlace_4 : decode mX8_setPlace.2.1 4 = .ok (.lconst 0, 1) := by decide +kernel
theorem dX8_setPlace_5 : decode mX8_setPlace.2.1 5 = .ok (.invokestatic 77, 3) := by decide +kernel
theorem dX8_setPlace_8 : decode mX8_setPlace.2.1 8 = .ok (.aload_n 0, 1) := by decide +kernel
theorem dX8_setPlace_9 : decode mX8_setPlace.2.1 9 = .ok (.getfield 19, 3) := by decide +kernel
theorem dX8_setPlace_12 : decode mX8_setPlace.2.1 12 = .ok (.iload_n 1, 1) := by decide +kernel
theorem dX8_setPlace_13 : decode mX8_setPlace.2.1 13 = .ok (.bipush 6, 2) := by decide +kernel
theorem dX8_setPlace_15 : decode mX8_setPlace.2.1 15 = .ok (.ishr, 1) := by decide +kernel
theorem dX8_setPlace_16 : decode mX8_setPlace.2.1 16 = .ok (.lconst 1, 1) := by decide +kernel
theorem dX8_setPlace_17 : decode mX8_setPlace.2.1 17 = .ok (.iload_n 1, 1) := by decide +kernel
theorem dX8_setPlace_18 : decode mX8_setPlace.2.1 18 = .ok (.bipush 63, 2) := by decide +kernel
theorem dX8_setPlace_20 : decode mX8_setPlace.2.1 20 = .ok (.iand, 1) := by decide +kernel
theorem dX8_setPlace_21 : decode mX8_setPlace.2.1 21 = .ok (.lshl, 1) := by decide +kernel
theorem dX8_setPlace_22 : decode mX8_setPlace.2.1 22 = .ok (.lastore, 1) := by decide +kernel
theorem dX8_setPlace_23 : decode mX8_setPlace.2.1 23 = .ok (.return_, 1) := by decide +kernel
theorem dX9_addSignal_0 : decode mX9_addSignal.2.1 0 = .ok (.aload_n 0, 1) := by decide +kernel
theorem dX9_addSignal_1 : decode mX9_addSignal.2.1 1 = .ok (.getfield 18, 3) := by decide +kernel
theorem dX9_addSignal_4 : decode mX9_addSignal.2.1 4 = .ok (.sipush 256, 3) := by decide +kernel
theorem dX9_addSignal_7 : decode mX9_addSignal.2.1 7 = .ok (.if_icmp .ge 23, 3) := by decide +kernel
theorem dX9_addSignal_10 : decode mX9_addSignal.2.1 10 = .ok (.aload_n 0, 1) := by decide +kernel
theorem dX9_addSignal_11 : decode mX9_addSignal.2.1 11 = .ok (.getfield 39, 3) := by decide +kernel
theorem dX9_addSignal_14 : decode mX9_addSignal.2.1 14 = .ok (.aload_n 0, 1) := by decide +kernel
theorem dX9_addSignal_15 : decode mX9_addSignal.2.1 15 = .ok (.getfield 18, 3) := by decide +kernel
theorem dX9_addSignal_18 : decode mX9_addSignal.2.1 18 = .ok (.iload_n 1, 1) := by decide +kernel
theorem dX9_addSignal_19 : decode mX9_addSignal.2.1 19 = .ok (.iastore, 1) := by decide +kernel
theorem dX9_addSignal_20 : decode mX9_addSignal.2.1 20 = .ok (.aload_n 0, 1) := by decide +kernel
theorem dX9_addSignal_21 : decode mX9_addSignal.2.1 21 = .ok (.dup, 1) := by decide +kernel
theorem dX9_addSignal_22 : decode mX9_addSignal.2.1 22 = .ok (.getfield 18, 3) := by decide +kernel
theorem dX9_addSignal_25 : decode mX9_addSignal.2.1 25 = .ok (.iconst 1, 1) := by decide +kernel
theorem dX9_addSignal_26 : decode mX9_addSignal.2.1 26 = .ok (.iadd, 1) := by decide +kernel
theorem dX9_addSignal_27 : decode mX9_addSignal.2.1 27 = .ok (.putfield 18, 3) := by decide +kernel
theorem dX9_addSignal_30 : decode mX9_addSignal.2.1 30 = .ok (.return_, 1) := by decide +kernel
theorem dX9_clear_0 : decode mX9_clear.2.1 0 = .ok (.aload_n 0, 1) := by decide +kernel
theorem dX9_clear_1 : decode mX9_clear.2.1 1 = .ok (.iconst 0, 1) := by decide +kernel
theorem dX9_clear_2 : decode mX9_clear.2.1 2 = .ok (.putfield 9, 3) := by decide +kernel
theorem dX9_clear_5 : decode mX9_clear.2.1 5 = .ok (.aload_n 0, 1) := by decide +kernel
theorem dX9_clear_6 : decode mX9_clear.2.1 6 = .ok (.iconst 0, 1) := by decide +kernel
theorem dX9_clear_7 : decode mX9_clear.2.1 7 = .ok (.putfield 15, 3) := by decide +kernel
theorem dX9_clear_10 : decode mX9_clear.2.1 10 = .ok (.aload_n 0, 1) := by decide +kernel
theorem dX9_clear_11 : decode mX9_clear.2.1 11 = .ok (.iconst 0, 1) := by decide +kernel
theorem dX9_clear_12 : decode mX9_clear.2.1 12 = .ok (.putfield 18, 3) := by decide +kernel
theorem dX9_clear_15 : decode mX9_clear.2.1 15 = .ok (.aload_n 0, 1) := by decide +kernel
theorem dX9_clear_16 : decode mX9_clear.2.1 16 = .ok (.iconst 0, 1) := by decide +kernel
theorem dX9_clear_17 : decode mX9_clear.2.1 17 = .ok (.putfield 21, 3) := by decide +kernel
theorem dX9_clear_20 : decode mX9_clear.2.1 20 = .ok (.aload_n 0, 1) := by decide +kernel
theorem dX9_clear_21 : decode mX9_clear.2.1 21 = .ok (.iconst 0, 1) := by decide +kernel
theorem dX9_clear_22 : decode mX9_clear.2.1 22 = .ok (.putfield 24, 3) := by decide +kernel
theorem dX9_clear_25 : decode mX9_clear.2.1 25 = .ok (.aload_n 0, 1) := by decide +kernel
theorem dX9_clear_26 : decode mX9_clear.2.1 26 = .ok (.iconst (-1), 1) := by decide +kernel
theorem dX9_clear_27 : decode mX9_clear.2.1 27 = .ok (.putfield 27, 3) := by decide +kernel
theorem dX9_clear_30 : decode mX9_clear.2.1 30 = .ok (.aload_n 0, 1) := by decide +kernel
theorem dX9_clear_31 : decode mX9_clear.2.1 31 = .ok (.iconst 0, 1) := by decide +kernel
theorem dX9_clear_32 : decode mX9_clear.2.1 32 = .ok (.putfield 30, 3) := by decide +kernel
theorem dX9_clear_35 : decode mX9_clear.2.1 35 = .ok (.aload_n 0, 1) := by decide +kernel
theorem dX9_clear_36 : decode mX9_clear.2.1 36 = .ok (.iconst 0, 1) := by decide +kernel
theorem dX9_clear_37 : decode mX9_clear.2.1 37 = .ok (.putfield 33, 3) := by decide +kernel
theorem dX9_clear_40 : decode mX9_clear.2.1 40 = .ok (.aload_n 0, 1) := by decide +kernel
theorem dX9_clear_41 : decode mX9_clear.2.1 41 = .ok (.iconst 0, 1) := by decide +kernel
theorem dX9_clear_42 : decode mX9_clear.2.1 42 = .ok (.putfield 36, 3) := by decide +kernel
theorem dX9_clear_45 : decode mX9_clear.2.1 45 = .ok (.aload_n 0, 1) := by decide +kernel
theorem dX9_clear_46 : decode mX9_clear.2.1 46 = .ok (.getfield 49, 3) := by decide +kernel
theorem dX9_clear_49 : decode mX9_clear.2.1 49 = .ok (.iconst 0, 1) := by decide +kernel
theorem dX9_clear_50 : decode mX9_clear.2.1 50 = .ok (.putfield 67, 3) := by decide +kernel
theorem dX9_clear_53 : decode mX9_clear.2.1 53 = .ok (.aload_n 0, 1) := by decide +kernel
theorem dX9_clear_54 : decode mX9_clear.2.1 54 = .ok (.getfield 56, 3) := by decide +kernel
theorem dX9_clear_57 : decode mX9_clear.2.1 57 = .ok (.iconst 0, 1) := by decide +kernel
theorem dX9_clear_58 : decode mX9_clear.2.1 58 = .ok (.putfield 70, 3) := by decide +kernel
theorem dX9_clear_61 : decode mX9_clear.2.1 61 = .ok (.aload_n 0, 1) := by decide +kernel
theorem dX9_clear_62 : decode mX9_clear.2.1 62 = .ok (.getfield 63, 3) := by decide +kernel
theorem dX9_clear_65 : decode mX9_clear.2.1 65 = .ok (.invokevirtual 73, 3) := by decide +kernel
theorem dX9_clear_68 : decode mX9_clear.2.1 68 = .ok (.return_, 1) := by decide +kernel
theorem dX9_draw_0 : decode mX9_draw.2.1 0 = .ok (.aload_n 0, 1) := by decide +kernel
theorem dX9_draw_1 : decode mX9_draw.2.1 1 = .ok (.aload_n 0, 1) := by decide +kernel
theorem dX9_draw_2 : decode mX9_draw.2.1 2 = .ok (.getfield 15, 3) := by decide +kernel
theorem dX9_draw_5 : decode mX9_draw.2.1 5 = .ok (.ldc 92, 2) := by decide +kernel
theorem dX9_draw_7 : decode mX9_draw.2.1 7 = .ok (.imul, 1) := by decide +kernel
theorem dX9_draw_8 : decode mX9_draw.2.1 8 = .ok (.sipush 12345, 3) := by decide +kernel
theorem dX9_draw_11 : decode mX9_draw.2.1 11 = .ok (.iadd, 1) := by decide +kernel
theorem dX9_draw_12 : decode mX9_draw.2.1 12 = .ok (.ldc 93, 2) := by decide +kernel
theorem dX9_draw_14 : decode mX9_draw.2.1 14 = .ok (.iand, 1) := by decide +kernel
theorem dX9_draw_15 : decode mX9_draw.2.1 15 = .ok (.putfield 15, 3) := by decide +kernel
theorem dX9_draw_18 : decode mX9_draw.2.1 18 = .ok (.iload_n 1, 1) := by decide +kernel
theorem dX9_draw_19 : decode mX9_draw.2.1 19 = .ok (.ifCond .le 15, 3) := by decide +kernel
theorem dX9_draw_22 : decode mX9_draw.2.1 22 = .ok (.aload_n 0, 1) := by decide +kernel
theorem dX9_draw_23 : decode mX9_draw.2.1 23 = .ok (.getfield 15, 3) := by decide +kernel
theorem dX9_draw_26 : decode mX9_draw.2.1 26 = .ok (.bipush 16, 2) := by decide +kernel
theorem dX9_draw_28 : decode mX9_draw.2.1 28 = .ok (.iushr, 1) := by decide +kernel
theorem dX9_draw_29 : decode mX9_draw.2.1 29 = .ok (.iload_n 1, 1) := by decide +kernel
theorem dX9_draw_30 : decode mX9_draw.2.1 30 = .ok (.irem, 1) := by decide +kernel
theorem dX9_draw_31 : decode mX9_draw.2.1 31 = .ok (.goto 4, 3) := by decide +kernel
theorem dX9_draw_34 : decode mX9_draw.2.1 34 = .ok (.iconst 0, 1) := by decide +kernel
theorem dX9_draw_35 : decode mX9_draw.2.1 35 = .ok (.ireturn, 1) := by decide +kernel
theorem dX9_hasDone_0 : decode mX9_hasDone.2.1 0 = .ok (.iload_n 1, 1) := by decide +kernel
theorem dX9_hasDone_1 : decode mX9_hasDone.2.1 1 = .ok (.ifCond .lt 15, 3) := by decide +kernel
theorem dX9_hasDone_4 : decode mX9_hasDone.2.1 4 = .ok (.iload_n 1, 1) := by decide +kernel
theorem dX9_hasDone_5 : decode mX9_hasDone.2.1 5 = .ok (.aload_n 0, 1) := by decide +kernel
theorem dX9_hasDone_6 : decode mX9_hasDone.2.1 6 = .ok (.getfield 30, 3) := by decide +kernel
theorem dX9_hasDone_9 : decode mX9_hasDone.2.1 9 = .ok (.if_icmp .ge 7, 3) := by decide +kernel
theorem dX9_hasDone_12 : decode mX9_hasDone.2.1 12 = .ok (.iconst 1, 1) := by decide +kernel
theorem dX9_hasDone_13 : decode mX9_hasDone.2.1 13 = .ok (.goto 4, 3) := by decide +kernel
theorem dX9_hasDone_16 : decode mX9_hasDone.2.1 16 = .ok (.iconst 0, 1) := by decide +kernel
theorem dX9_hasDone_17 : decode mX9_hasDone.2.1 17 = .ok (.ireturn, 1) := by decide +kernel
theorem dX9_init_0 : decode mX9_init.2.1 0 = .ok (.aload_n 0, 1) := by decide +kernel
theorem dX9_init_1 : decode mX9_init.2.1 1 = .ok (.invokespecial 3, 3) := by decide +kernel
theorem dX9_init_4 : decode mX9_init.2.1 4 = .ok (.aload_n 0, 1) := by decide +kernel
theorem dX9_init_5 : decode mX9_init.2.1 5 = .ok (.iconst 0, 1) := by decide +kernel
theorem dX9_init_6 : decode mX9_init.2.1 6 = .ok (.putfield 9, 3) := by decide +kernel
theorem dX9_init_9 : decode mX9_init.2.1 9 = .ok (.aload_n 0, 1) := by decide +kernel
theorem dX9_init_10 : decode mX9_init.2.1 10 = .ok (.iconst 0, 1) := by decide +kernel
theorem dX9_init_11 : decode mX9_init.2.1 11 = .ok (.putfield 15, 3) := by decide +kernel
theorem dX9_init_14 : decode mX9_init.2.1 14 = .ok (.aload_n 0, 1) := by decide +kernel
theorem dX9_init_15 : decode mX9_init.2.1 15 = .ok (.iconst 0, 1) := by decide +kernel
theorem dX9_init_16 : decode mX9_init.2.1 16 = .ok (.putfield 18, 3) := by decide +kernel
theorem dX9_init_19 : decode mX9_init.2.1 19 = .ok (.aload_n 0, 1) := by decide +kernel
theorem dX9_init_20 : decode mX9_init.2.1 20 = .ok (.iconst 0, 1) := by decide +kernel
theorem dX9_init_21 : decode mX9_init.2.1 21 = .ok (.putfield 21, 3) := by decide +kernel
theorem dX9_init_24 : decode mX9_init.2.1 24 = .ok (.aload_n 0, 1) := by decide +kernel
theorem dX9_init_25 : decode mX9_init.2.1 25 = .ok (.iconst 0, 1) := by decide +kernel
theorem dX9_init_26 : decode mX9_init.2.1 26 = .ok (.putfield 24, 3) := by decide +kernel
theorem dX9_init_29 : decode mX9_init.2.1 29 = .ok (.aload_n 0, 1) := by decide +kernel
theorem dX9_init_30 : decode mX9_init.2.1 30 = .ok (.iconst (-1), 1) := by decide +kernel
theorem dX9_init_31 : decode mX9_init.2.1 31 = .ok (.putfield 27, 3) := by decide +kernel
theorem dX9_init_34 : decode mX9_init.2.1 34 = .ok (.aload_n 0, 1) := by decide +kernel
theorem dX9_init_35 : decode mX9_init.2.1 35 = .ok (.iconst 0, 1) := by decide +kernel
theorem dX9_init_36 : decode mX9_init.2.1 36 = .ok (.putfield 30, 3) := by decide +kernel
theorem dX9_init_39 : decode mX9_init.2.1 39 = .ok (.aload_n 0, 1) := by decide +kernel
theorem dX9_init_40 : decode mX9_init.2.1 40 = .ok (.iconst 0, 1) := by decide +kernel
theorem dX9_init_41 : decode mX9_init.2.1 41 = .ok (.putfield 33, 3) := by decide +kernel
theorem dX9_init_44 : decode mX9_init.2.1 44 = .ok (.aload_n 0, 1) := by decide +kernel
theorem dX9_init_45 : decode mX9_init.2.1 45 = .ok (.iconst 0, 1) := by decide +kernel
theorem dX9_init_46 : decode mX9_init.2.1 46 = .ok (.putfield 36, 3) := by decide +kernel
theorem dX9_init_49 : decode mX9_init.2.1 49 = .ok (.aload_n 0, 1) := by decide +kernel
theorem dX9_init_50 : decode mX9_init.2.1 50 = .ok (.sipush 256, 3) := by decide +kernel
theorem dX9_init_53 : decode mX9_init.2.1 53 = .ok (.newarray .int, 2) := by decide +kernel
theorem dX9_init_55 : decode mX9_init.2.1 55 = .ok (.putfield 39, 3) := by decide +kernel
theorem dX9_init_58 : decode mX9_init.2.1 58 = .ok (.aload_n 0, 1) := by decide +kernel
theorem dX9_init_59 : decode mX9_init.2.1 59 = .ok (.sipush 1536, 3) := by decide +kernel
theorem dX9_init_62 : decode mX9_init.2.1 62 = .ok (.newarray .int, 2) := by decide +kernel
theorem dX9_init_64 : decode mX9_init.2.1 64 = .ok (.putfield 43, 3) := by decide +kernel
theorem dX9_init_67 : decode mX9_init.2.1 67 = .ok (.aload_n 0, 1) := by decide +kernel
theorem dX9_init_68 : decode mX9_init.2.1 68 = .ok (.new 46, 3) := by decide +kernel
theorem dX9_init_71 : decode mX9_init.2.1 71 = .ok (.dup, 1) := by decide +kernel
theorem dX9_init_72 : decode mX9_init.2.1 72 = .ok (.invokespecial 48, 3) := by decide +kernel
theorem dX9_init_75 : decode mX9_init.2.1 75 = .ok (.putfield 49, 3) := by decide +kernel
theorem dX9_init_78 : decode mX9_init.2.1 78 = .ok (.aload_n 0, 1) := by decide +kernel
theorem dX9_init_79 : decode mX9_init.2.1 79 = .ok (.new 53, 3) := by decide +kernel
theorem dX9_init_82 : decode mX9_init.2.1 82 = .ok (.dup, 1) := by decide +kernel
theorem dX9_init_83 : decode mX9_init.2.1 83 = .ok (.invokespecial 55, 3) := by decide +kernel
theorem dX9_init_86 : decode mX9_init.2.1 86 = .ok (.putfield 56, 3) := by decide +kernel
theorem dX9_init_89 : decode mX9_init.2.1 89 = .ok (.aload_n 0, 1) := by decide +kernel
theorem dX9_init_90 : decode mX9_init.2.1 90 = .ok (.new 60, 3) := by decide +kernel
theorem dX9_init_93 : decode mX9_init.2.1 93 = .ok (.dup, 1) := by decide +kernel
theorem dX9_init_94 : decode mX9_init.2.1 94 = .ok (.invokespecial 62, 3) := by decide +kernel
theorem dX9_init_97 : decode mX9_init.2.1 97 = .ok (.putfield 63, 3) := by decide +kernel
theorem dX9_init_100 : decode mX9_init.2.1 100 = .ok (.return_, 1) := by decide +kernel
theorem dX9_layOrder_0 : decode mX9_layOrder.2.1 0 = .ok (.iload_n 1, 1) := by decide +kernel
theorem dX9_layOrder_1 : decode mX9_layOrder.2.1 1 = .ok (.sipush 256, 3) := by decide +kernel
theorem dX9_layOrder_4 : decode mX9_layOrder.2.1 4 = .ok (.imul, 1) := by decide +kernel
theorem dX9_layOrder_5 : decode mX9_layOrder.2.1 5 = .ok (.istore_n 2, 1) := by decide +kernel
theorem dX9_layOrder_6 : decode mX9_layOrder.2.1 6 = .ok (.iconst 0, 1) := by decide +kernel
theorem dX9_layOrder_7 : decode mX9_layOrder.2.1 7 = .ok (.istore_n 3, 1) := by decide +kernel
theorem dX9_layOrder_8 : decode mX9_layOrder.2.1 8 = .ok (.iload_n 3, 1) := by decide +kernel
theorem dX9_layOrder_9 : decode mX9_layOrder.2.1 9 = .ok (.aload_n 0, 1) := by decide +kernel
theorem dX9_layOrder_10 : decode mX9_layOrder.2.1 10 = .ok (.getfield 49, 3) := by decide +kernel
theorem dX9_layOrder_13 : decode mX9_layOrder.2.1 13 = .ok (.getfield 67, 3) := by decide +kernel
theorem dX9_layOrder_16 : decode mX9_layOrder.2.1 16 = .ok (.if_icmp .ge 18, 3) := by decide +kernel
theorem dX9_layOrder_19 : decode mX9_layOrder.2.1 19 = .ok (.aload_n 0, 1) := by decide +kernel
theorem dX9_layOrder_20 : decode mX9_layOrder.2.1 20 = .ok (.getfield 43, 3) := by decide +kernel
theorem dX9_layOrder_23 : decode mX9_layOrder.2.1 23 = .ok (.iload_n 2, 1) := by decide +kernel
theorem dX9_layOrder_24 : decode mX9_layOrder.2.1 24 = .ok (.iload_n 3, 1) := by decide +kernel
theorem dX9_layOrder_25 : decode mX9_layOrder.2.1 25 = .ok (.iadd, 1) := by decide +kernel
theorem dX9_layOrder_26 : decode mX9_layOrder.2.1 26 = .ok (.iload_n 3, 1) := by decide +kernel
theorem dX9_layOrder_27 : decode mX9_layOrder.2.1 27 = .ok (.iastore, 1) := by decide +kernel
theorem dX9_layOrder_28 : decode mX9_layOrder.2.1 28 = .ok (.iinc 3 1, 3) := by decide +kernel
theorem dX9_layOrder_31 : decode mX9_layOrder.2.1 31 = .ok (.goto (-23), 3) := by decide +kernel
theorem dX9_layOrder_34 : decode mX9_layOrder.2.1 34 = .ok (.iload_n 1, 1) := by decide +kernel
theorem dX9_layOrder_35 : decode mX9_layOrder.2.1 35 = .ok (.ifCond .ne 4, 3) := by decide +kernel
theorem dX9_layOrder_38 : decode mX9_layOrder.2.1 38 = .ok (.return_, 1) := by decide +kernel
theorem dX9_layOrder_39 : decode mX9_layOrder.2.1 39 = .ok (.aload_n 0, 1) := by decide +kernel
theorem dX9_layOrder_40 : decode mX9_layOrder.2.1 40 = .ok (.getfield 49, 3) := by decide +kernel
theorem dX9_layOrder_43 : decode mX9_layOrder.2.1 43 = .ok (.getfield 67, 3) := by decide +kernel
theorem dX9_layOrder_46 : decode mX9_layOrder.2.1 46 = .ok (.iconst 1, 1) := by decide +kernel
theorem dX9_layOrder_47 : decode mX9_layOrder.2.1 47 = .ok (.isub, 1) := by decide +kernel
theorem dX9_layOrder_48 : decode mX9_layOrder.2.1 48 = .ok (.istore_n 3, 1) := by decide +kernel
theorem dX9_layOrder_49 : decode mX9_layOrder.2.1 49 = .ok (.iload_n 3, 1) := by decide +kernel
theorem dX9_layOrder_50 : decode mX9_layOrder.2.1 50 = .ok (.iconst 1, 1) := by decide +kernel
theorem dX9_layOrder_51 : decode mX9_layOrder.2.1 51 = .ok (.if_icmp .lt 56, 3) := by decide +kernel
theorem dX9_layOrder_54 : decode mX9_layOrder.2.1 54 = .ok (.aload_n 0, 1) := by decide +kernel
theorem dX9_layOrder_55 : decode mX9_layOrder.2.1 55 = .ok (.iload_n 3, 1) := by decide +kernel
theorem dX9_layOrder_56 : decode mX9_layOrder.2.1 56 = .ok (.iconst 1, 1) := by decide +kernel
theorem dX9_layOrder_57 : decode mX9_layOrder.2.1 57 = .ok (.iadd, 1) := by decide +kernel
theorem dX9_layOrder_58 : decode mX9_layOrder.2.1 58 = .ok (.invokevirtual 94, 3) := by decide +kernel
theorem dX9_layOrder_61 : decode mX9_layOrder.2.1 61 = .ok (.istore 4, 2) := by decide +kernel
theorem dX9_layOrder_63 : decode mX9_layOrder.2.1 63 = .ok (.aload_n 0, 1) := by decide +kernel
theorem dX9_layOrder_64 : decode mX9_layOrder.2.1 64 = .ok (.getfield 43, 3) := by decide +kernel
theorem dX9_layOrder_67 : decode mX9_layOrder.2.1 67 = .ok (.iload_n 2, 1) := by decide +kernel
theorem dX9_layOrder_68 : decode mX9_layOrder.2.1 68 = .ok (.iload_n 3, 1) := by decide +kernel
theorem dX9_layOrder_69 : decode mX9_layOrder.2.1 69 = .ok (.iadd, 1) := by decide +kernel
theorem dX9_layOrder_70 : decode mX9_layOrder.2.1 70 = .ok (.iaload, 1) := by decide +kernel
theorem dX9_layOrder_71 : decode mX9_layOrder.2.1 71 = .ok (.istore 5, 2) := by decide +kernel
theorem dX9_layOrder_73 : decode mX9_layOrder.2.1 73 = .ok (.aload_n 0, 1) := by decide +kernel
theorem dX9_layOrder_74 : decode mX9_layOrder.2.1 74 = .ok (.getfield 43, 3) := by decide +kernel
theorem dX9_layOrder_77 : decode mX9_layOrder.2.1 77 = .ok (.iload_n 2, 1) := by decide +kernel
theorem dX9_layOrder_78 : decode mX9_layOrder.2.1 78 = .ok (.iload_n 3, 1) := by decide +kernel
theorem dX9_layOrder_79 : decode mX9_layOrder.2.1 79 = .ok (.iadd, 1) := by decide +kernel
theorem dX9_layOrder_80 : decode mX9_layOrder.2.1 80 = .ok (.aload_n 0, 1) := by decide +kernel
theorem dX9_layOrder_81 : decode mX9_layOrder.2.1 81 = .ok (.getfield 43, 3) := by decide +kernel
theorem dX9_layOrder_84 : decode mX9_layOrder.2.1 84 = .ok (.iload_n 2, 1) := by decide +kernel
theorem dX9_layOrder_85 : decode mX9_layOrder.2.1 85 = .ok (.iload 4, 2) := by decide +kernel
theorem dX9_layOrder_87 : decode mX9_layOrder.2.1 87 = .ok (.iadd, 1) := by decide +kernel
theorem dX9_layOrder_88 : decode mX9_layOrder.2.1 88 = .ok (.iaload, 1) := by decide +kernel
theorem dX9_layOrder_89 : decode mX9_layOrder.2.1 89 = .ok (.iastore, 1) := by decide +kernel
theorem dX9_layOrder_90 : decode mX9_layOrder.2.1 90 = .ok (.aload_n 0, 1) := by decide +kernel
theorem dX9_layOrder_91 : decode mX9_layOrder.2.1 91 = .ok (.getfield 43, 3) := by decide +kernel
theorem dX9_layOrder_94 : decode mX9_layOrder.2.1 94 = .ok (.iload_n 2, 1) := by decide +kernel
theorem dX9_layOrder_95 : decode mX9_layOrder.2.1 95 = .ok (.iload 4, 2) := by decide +kernel
theorem dX9_layOrder_97 : decode mX9_layOrder.2.1 97 = .ok (.iadd, 1) := by decide +kernel
theorem dX9_layOrder_98 : decode mX9_layOrder.2.1 98 = .ok (.iload 5, 2) := by decide +kernel
theorem dX9_layOrder_100 : decode mX9_layOrder.2.1 100 = .ok (.iastore, 1) := by decide +kernel
theorem dX9_layOrder_101 : decode mX9_layOrder.2.1 101 = .ok (.iinc 3 (-1), 3) := by decide +kernel
theorem dX9_layOrder_104 : decode mX9_layOrder.2.1 104 = .ok (.goto (-55), 3) := by decide +kernel
theorem dX9_layOrder_107 : decode mX9_layOrder.2.1 107 = .ok (.return_, 1) := by decide +kernel
theorem dX9_mark_0 : decode mX9_mark.2.1 0 = .ok (.aload_n 0, 1) := by decide +kernel
theorem dX9_mark_1 : decode mX9_mark.2.1 1 = .ok (.getfield 39, 3) := by decide +kernel
theorem dX9_mark_4 : decode mX9_mark.2.1 4 = .ok (.iload_n 1, 1) := by decide +kernel
theorem dX9_mark_5 : decode mX9_mark.2.1 5 = .ok (.iaload, 1) := by decide +kernel
theorem dX9_mark_6 : decode mX9_mark.2.1 6 = .ok (.iload_n 2, 1) := by decide +kernel
theorem dX9_mark_7 : decode mX9_mark.2.1 7 = .ok (.ishr, 1) := by decide +kernel
theorem dX9_mark_8 : decode mX9_mark.2.1 8 = .ok (.iconst 1, 1) := by decide +kernel
theorem dX9_mark_9 : decode mX9_mark.2.1 9 = .ok (.iand, 1) := by decide +kernel
theorem dX9_mark_10 : decode mX9_mark.2.1 10 = .ok (.ireturn, 1) := by decide +kernel
theorem dX9_ordered_0 : decode mX9_ordered.2.1 0 = .ok (.aload_n 0, 1) := by decide +kernel
theorem dX9_ordered_1 : decode mX9_ordered.2.1 1 = .ok (.getfield 43, 3) := by decide +kernel
theorem dX9_ordered_4 : decode mX9_ordered.2.1 4 = .ok (.iload_n 1, 1) := by decide +kernel
theorem dX9_ordered_5 : decode mX9_ordered.2.1 5 = .ok (.sipush 256, 3) := by decide +kernel
theorem dX9_ordered_8 : decode mX9_ordered.2.1 8 = .ok (.imul, 1) := by decide +kernel
theorem dX9_ordered_9 : decode mX9_ordered.2.1 9 = .ok (.iload_n 2, 1) := by decide +kernel
theorem dX9_ordered_10 : decode mX9_ordered.2.1 10 = .ok (.iadd, 1) := by decide +kernel
theorem dX9_ordered_11 : decode mX9_ordered.2.1 11 = .ok (.iaload, 1) := by decide +kernel
theorem dX9_ordered_12 : decode mX9_ordered.2.1 12 = .ok (.ireturn, 1) := by decide +kernel
theorem dX9_takeFrom_0 : decode mX9_takeFrom.2.1 0 = .ok (.aload_n 0, 1) := by decide +kernel
theorem dX9_takeFrom_1 : decode mX9_takeFrom.2.1 1 = .ok (.aload_n 1, 1) := by decide +kernel
theorem dX9_takeFrom_2 : decode mX9_takeFrom.2.1 2 = .ok (.getfield 9, 3) := by decide +kernel
theorem dX9_takeFrom_5 : decode mX9_takeFrom.2.1 5 = .ok (.putfield 9, 3) := by decide +kernel
theorem dX9_takeFrom_8 : decode mX9_takeFrom.2.1 8 = .ok (.aload_n 0, 1) := by decide +kernel
theorem dX9_takeFrom_9 : decode mX9_takeFrom.2.1 9 = .ok (.aload_n 1, 1) := by decide +kernel
theorem dX9_takeFrom_10 : decode mX9_takeFrom.2.1 10 = .ok (.getfield 15, 3) := by decide +kernel
theorem dX9_takeFrom_13 : decode mX9_takeFrom.2.1 13 = .ok (.putfield 15, 3) := by decide +kernel
theorem dX9_takeFrom_16 : decode mX9_takeFrom.2.1 16 = .ok (.aload_n 0, 1) := by decide +kernel
theorem dX9_takeFrom_17 : decode mX9_takeFrom.2.1 17 = .ok (.aload_n 1, 1) := by decide +kernel
theorem dX9_takeFrom_18 : decode mX9_takeFrom.2.1 18 = .ok (.getfield 18, 3) := by decide +kernel
theorem dX9_takeFrom_21 : decode mX9_takeFrom.2.1 21 = .ok (.putfield 18, 3) := by decide +kernel
theorem dX9_takeFrom_24 : decode mX9_takeFrom.2.1 24 = .ok (.aload_n 0, 1) := by decide +kernel
theorem dX9_takeFrom_25 : decode mX9_takeFrom.2.1 25 = .ok (.aload_n 1, 1) := by decide +kernel
theorem dX9_takeFrom_26 : decode mX9_takeFrom.2.1 26 = .ok (.getfield 21, 3) := by decide +kernel
theorem dX9_takeFrom_29 : decode mX9_takeFrom.2.1 29 = .ok (.putfield 21, 3) := by decide +kernel
theorem dX9_takeFrom_32 : decode mX9_takeFrom.2.1 32 = .ok (.aload_n 0, 1) := by decide +kernel
theorem dX9_takeFrom_33 : decode mX9_takeFrom.2.1 33 = .ok (.aload_n 1, 1) := by decide +kernel
theorem dX9_takeFrom_34 : decode mX9_takeFrom.2.1 34 = .ok (.getfield 24, 3) := by decide +kernel
theorem dX9_takeFrom_37 : decode mX9_takeFrom.2.1 37 = .ok (.putfield 24, 3) := by decide +kernel
theorem dX9_takeFrom_40 : decode mX9_takeFrom.2.1 40 = .ok (.aload_n 0, 1) := by decide +kernel
theorem dX9_takeFrom_41 : decode mX9_takeFrom.2.1 41 = .ok (.aload_n 1, 1) := by decide +kernel
theorem dX9_takeFrom_42 : decode mX9_takeFrom.2.1 42 = .ok (.getfield 27, 3) := by decide +kernel
theorem dX9_takeFrom_45 : decode mX9_takeFrom.2.1 45 = .ok (.putfield 27, 3) := by decide +kernel
theorem dX9_takeFrom_48 : decode mX9_takeFrom.2.1 48 = .ok (.aload_n 0, 1) := by decide +kernel
theorem dX9_takeFrom_49 : decode mX9_takeFrom.2.1 49 = .ok (.aload_n 1, 1) := by decide +kernel
theorem dX9_takeFrom_50 : decode mX9_takeFrom.2.1 50 = .ok (.getfield 30, 3) := by decide +kernel
theorem dX9_takeFrom_53 : decode mX9_takeFrom.2.1 53 = .ok (.putfield 30, 3) := by decide +kernel
theorem dX9_takeFrom_56 : decode mX9_takeFrom.2.1 56 = .ok (.aload_n 0, 1) := by decide +kernel
theorem dX9_takeFrom_57 : decode mX9_takeFrom.2.1 57 = .ok (.aload_n 1, 1) := by decide +kernel
theorem dX9_takeFrom_58 : decode mX9_takeFrom.2.1 58 = .ok (.getfield 33, 3) := by decide +kernel
theorem dX9_takeFrom_61 : decode mX9_takeFrom.2.1 61 = .ok (.putfield 33, 3) := by decide +kernel
theorem dX9_takeFrom_64 : decode mX9_takeFrom.2.1 64 = .ok (.aload_n 0, 1) := by decide +kernel
theorem dX9_takeFrom_65 : decode mX9_takeFrom.2.1 65 = .ok (.aload_n 1, 1) := by decide +kernel
theorem dX9_takeFrom_66 : decode mX9_takeFrom.2.1 66 = .ok (.getfield 36, 3) := by decide +kernel
theorem dX9_takeFrom_69 : decode mX9_takeFrom.2.1 69 = .ok (.putfield 36, 3) := by decide +kernel
theorem dX9_takeFrom_72 : decode mX9_takeFrom.2.1 72 = .ok (.aload_n 1, 1) := by decide +kernel
theorem dX9_takeFrom_73 : decode mX9_takeFrom.2.1 73 = .ok (.getfield 39, 3) := by decide +kernel
theorem dX9_takeFrom_76 : decode mX9_takeFrom.2.1 76 = .ok (.iconst 0, 1) := by decide +kernel
theorem dX9_takeFrom_77 : decode mX9_takeFrom.2.1 77 = .ok (.aload_n 0, 1) := by decide +kernel
theorem dX9_takeFrom_78 : decode mX9_takeFrom.2.1 78 = .ok (.getfield 39, 3) := by decide +kernel
theorem dX9_takeFrom_81 : decode mX9_takeFrom.2.1 81 = .ok (.iconst 0, 1) := by decide +kernel
theorem dX9_takeFrom_82 : decode mX9_takeFrom.2.1 82 = .ok (.aload_n 0, 1) := by decide +kernel
theorem dX9_takeFrom_83 : decode mX9_takeFrom.2.1 83 = .ok (.getfield 18, 3) := by decide +kernel
theorem dX9_takeFrom_86 : decode mX9_takeFrom.2.1 86 = .ok (.invokestatic 76, 3) := by decide +kernel
theorem dX9_takeFrom_89 : decode mX9_takeFrom.2.1 89 = .ok (.aload_n 1, 1) := by decide +kernel
theorem dX9_takeFrom_90 : decode mX9_takeFrom.2.1 90 = .ok (.getfield 43, 3) := by decide +kernel
theorem dX9_takeFrom_93 : decode mX9_takeFrom.2.1 93 = .ok (.iconst 0, 1) := by decide +kernel
theorem dX9_takeFrom_94 : decode mX9_takeFrom.2.1 94 = .ok (.aload_n 0, 1) := by decide +kernel
theorem dX9_takeFrom_95 : decode mX9_takeFrom.2.1 95 = .ok (.getfield 43, 3) := by decide +kernel
theorem dX9_takeFrom_98 : decode mX9_takeFrom.2.1 98 = .ok (.iconst 0, 1) := by decide +kernel
theorem dX9_takeFrom_99 : decode mX9_takeFrom.2.1 99 = .ok (.aload_n 0, 1) := by decide +kernel
theorem dX9_takeFrom_100 : decode mX9_takeFrom.2.1 100 = .ok (.getfield 30, 3) := by decide +kernel
theorem dX9_takeFrom_103 : decode mX9_takeFrom.2.1 103 = .ok (.sipush 256, 3) := by decide +kernel
theorem dX9_takeFrom_106 : decode mX9_takeFrom.2.1 106 = .ok (.imul, 1) := by decide +kernel
theorem dX9_takeFrom_107 : decode mX9_takeFrom.2.1 107 = .ok (.invokestatic 76, 3) := by decide +kernel
theorem dX9_takeFrom_110 : decode mX9_takeFrom.2.1 110 = .ok (.aload_n 0, 1) := by decide +kernel
theorem dX9_takeFrom_111 : decode mX9_takeFrom.2.1 111 = .ok (.getfield 49, 3) := by decide +kernel
theorem dX9_takeFrom_114 : decode mX9_takeFrom.2.1 114 = .ok (.aload_n 1, 1) := by decide +kernel
theorem dX9_takeFrom_115 : decode mX9_takeFrom.2.1 115 = .ok (.getfield 49, 3) := by decide +kernel
theorem dX9_takeFrom_118 : decode mX9_takeFrom.2.1 118 = .ok (.invokevirtual 82, 3) := by decide +kernel
theorem dX9_takeFrom_121 : decode mX9_takeFrom.2.1 121 = .ok (.aload_n 0, 1) := by decide +kernel
theorem dX9_takeFrom_122 : decode mX9_takeFrom.2.1 122 = .ok (.getfield 56, 3) := by decide +kernel
theorem dX9_takeFrom_125 : decode mX9_takeFrom.2.1 125 = .ok (.aload_n 1, 1) := by decide +kernel
theorem dX9_takeFrom_126 : decode mX9_takeFrom.2.1 126 = .ok (.getfield 56, 3) := by decide +kernel
theorem dX9_takeFrom_129 : decode mX9_takeFrom.2.1 129 = .ok (.invokevirtual 86, 3) := by decide +kernel
theorem dX9_takeFrom_132 : decode mX9_takeFrom.2.1 132 = .ok (.aload_n 0, 1) := by decide +kernel
theorem dX9_takeFrom_133 : decode mX9_takeFrom.2.1 133 = .ok (.getfield 63, 3) := by decide +kernel
theorem dX9_takeFrom_136 : decode mX9_takeFrom.2.1 136 = .ok (.aload_n 1, 1) := by decide +kernel
theorem dX9_takeFrom_137 : decode mX9_takeFrom.2.1 137 = .ok (.getfield 63, 3) := by decide +kernel
theorem dX9_takeFrom_140 : decode mX9_takeFrom.2.1 140 = .ok (.invokevirtual 89, 3) := by decide +kernel
theorem dX9_takeFrom_143 : decode mX9_takeFrom.2.1 143 = .ok (.return_, 1) := by decide +kernel
theorem dX9_unlikeAlong_0 : decode mX9_unlikeAlong.2.1 0 = .ok (.iconst 0, 1) := by decide +kernel
theorem dX9_unlikeAlong_1 : decode mX9_unlikeAlong.2.1 1 = .ok (.istore 4, 2) := by decide +kernel
theorem dX9_unlikeAlong_3 : decode mX9_unlikeAlong.2.1 3 = .ok (.iload_n 2, 1) := by decide +kernel
theorem dX9_unlikeAlong_4 : decode mX9_unlikeAlong.2.1 4 = .ok (.istore 5, 2) := by decide +kernel
theorem dX9_unlikeAlong_6 : decode mX9_unlikeAlong.2.1 6 = .ok (.iload 5, 2) := by decide +kernel
theorem dX9_unlikeAlong_8 : decode mX9_unlikeAlong.2.1 8 = .ok (.iload_n 2, 1) := by decide +kernel
theorem dX9_unlikeAlong_9 : decode mX9_unlikeAlong.2.1 9 = .ok (.iload_n 3, 1) := by decide +kernel
theorem dX9_unlikeAlong_10 : decode mX9_unlikeAlong.2.1 10 = .ok (.iadd, 1) := by decide +kernel
theorem dX9_unlikeAlong_11 : decode mX9_unlikeAlong.2.1 11 = .ok (.if_icmp .ge 36, 3) := by decide +kernel
theorem dX9_unlikeAlong_14 : decode mX9_unlikeAlong.2.1 14 = .ok (.iload 4, 2) := by decide +kernel
theorem dX9_unlikeAlong_16 : decode mX9_unlikeAlong.2.1 16 = .ok (.aload_n 0, 1) := by decide +kernel
theorem dX9_unlikeAlong_17 : decode mX9_unlikeAlong.2.1 17 = .ok (.getfield 49, 3) := by decide +kernel
theorem dX9_unlikeAlong_20 : decode mX9_unlikeAlong.2.1 20 = .ok (.aload_n 0, 1) := by decide +kernel
theorem dX9_unlikeAlong_21 : decode mX9_unlikeAlong.2.1 21 = .ok (.iload_n 1, 1) := by decide +kernel
theorem dX9_unlikeAlong_22 : decode mX9_unlikeAlong.2.1 22 = .ok (.iload 5, 2) := by decide +kernel
theorem dX9_unlikeAlong_24 : decode mX9_unlikeAlong.2.1 24 = .ok (.invokevirtual 98, 3) := by decide +kernel
theorem dX9_unlikeAlong_27 : decode mX9_unlikeAlong.2.1 27 = .ok (.invokevirtual 102, 3) := by decide +kernel
theorem dX9_unlikeAlong_30 : decode mX9_unlikeAlong.2.1 30 = .ok (.ifCond .eq 7, 3) := by decide +kernel
theorem dX9_unlikeAlong_33 : decode mX9_unlikeAlong.2.1 33 = .ok (.iconst 1, 1) := by decide +kernel
theorem dX9_unlikeAlong_34 : decode mX9_unlikeAlong.2.1 34 = .ok (.goto 4, 3) := by decide +kernel
theorem dX9_unlikeAlong_37 : decode mX9_unlikeAlong.2.1 37 = .ok (.iconst 0, 1) := by decide +kernel
theorem dX9_unlikeAlong_38 : decode mX9_unlikeAlong.2.1 38 = .ok (.iadd, 1) := by decide +kernel
theorem dX9_unlikeAlong_39 : decode mX9_unlikeAlong.2.1 39 = .ok (.istore 4, 2) := by decide +kernel
theorem dX9_unlikeAlong_41 : decode mX9_unlikeAlong.2.1 41 = .ok (.iinc 5 1, 3) := by decide +kernel
theorem dX9_unlikeAlong_44 : decode mX9_unlikeAlong.2.1 44 = .ok (.goto (-38), 3) := by decide +kernel
theorem dX9_unlikeAlong_47 : decode mX9_unlikeAlong.2.1 47 = .ok (.iload 4, 2) := by decide +kernel
theorem dX9_unlikeAlong_49 : decode mX9_unlikeAlong.2.1 49 = .ok (.ireturn, 1) := by decide +kernel
