theorem dX11_ledger_14 : decode mX11_ledger.2.1 14 = .ok (.iconst (-1), 1) := by decide +kernel
theorem dX11_ledger_15 : decode mX11_ledger.2.1 15 = .ok (.ireturn, 1) := by decide +kernel
theorem dX11_ledger_16 : decode mX11_ledger.2.1 16 = .ok (.iload_n 2, 1) := by decide +kernel
theorem dX11_ledger_17 : decode mX11_ledger.2.1 17 = .ok (.tableswitch 81 0 3 #[31, 44, 56, 69], 31) := by decide +kernel
theorem dX11_ledger_48 : decode mX11_ledger.2.1 48 = .ok (.aload_n 0, 1) := by decide +kernel
theorem dX11_ledger_49 : decode mX11_ledger.2.1 49 = .ok (.getfield 34, 3) := by decide +kernel
theorem dX11_ledger_52 : decode mX11_ledger.2.1 52 = .ok (.getfield 210, 3) := by decide +kernel
theorem dX11_ledger_55 : decode mX11_ledger.2.1 55 = .ok (.getfield 217, 3) := by decide +kernel
theorem dX11_ledger_58 : decode mX11_ledger.2.1 58 = .ok (.iload_n 1, 1) := by decide +kernel
theorem dX11_ledger_59 : decode mX11_ledger.2.1 59 = .ok (.iaload, 1) := by decide +kernel
theorem dX11_ledger_60 : decode mX11_ledger.2.1 60 = .ok (.ireturn, 1) := by decide +kernel
theorem dX11_ledger_61 : decode mX11_ledger.2.1 61 = .ok (.aload_n 0, 1) := by decide +kernel
theorem dX11_ledger_62 : decode mX11_ledger.2.1 62 = .ok (.getfield 34, 3) := by decide +kernel
theorem dX11_ledger_65 : decode mX11_ledger.2.1 65 = .ok (.getfield 210, 3) := by decide +kernel
theorem dX11_ledger_68 : decode mX11_ledger.2.1 68 = .ok (.iload_n 1, 1) := by decide +kernel
theorem dX11_ledger_69 : decode mX11_ledger.2.1 69 = .ok (.invokevirtual 220, 3) := by decide +kernel
theorem dX11_ledger_72 : decode mX11_ledger.2.1 72 = .ok (.ireturn, 1) := by decide +kernel
theorem dX11_ledger_73 : decode mX11_ledger.2.1 73 = .ok (.aload_n 0, 1) := by decide +kernel
theorem dX11_ledger_74 : decode mX11_ledger.2.1 74 = .ok (.getfield 34, 3) := by decide +kernel
theorem dX11_ledger_77 : decode mX11_ledger.2.1 77 = .ok (.getfield 210, 3) := by decide +kernel
theorem dX11_ledger_80 : decode mX11_ledger.2.1 80 = .ok (.getfield 223, 3) := by decide +kernel
theorem dX11_ledger_83 : decode mX11_ledger.2.1 83 = .ok (.iload_n 1, 1) := by decide +kernel
theorem dX11_ledger_84 : decode mX11_ledger.2.1 84 = .ok (.iaload, 1) := by decide +kernel
theorem dX11_ledger_85 : decode mX11_ledger.2.1 85 = .ok (.ireturn, 1) := by decide +kernel
theorem dX11_ledger_86 : decode mX11_ledger.2.1 86 = .ok (.aload_n 0, 1) := by decide +kernel
theorem dX11_ledger_87 : decode mX11_ledger.2.1 87 = .ok (.getfield 34, 3) := by decide +kernel
theorem dX11_ledger_90 : decode mX11_ledger.2.1 90 = .ok (.getfield 210, 3) := by decide +kernel
theorem dX11_ledger_93 : decode mX11_ledger.2.1 93 = .ok (.iload_n 1, 1) := by decide +kernel
theorem dX11_ledger_94 : decode mX11_ledger.2.1 94 = .ok (.invokevirtual 226, 3) := by decide +kernel
theorem dX11_ledger_97 : decode mX11_ledger.2.1 97 = .ok (.ireturn, 1) := by decide +kernel
theorem dX11_ledger_98 : decode mX11_ledger.2.1 98 = .ok (.iconst (-1), 1) := by decide +kernel
theorem dX11_ledger_99 : decode mX11_ledger.2.1 99 = .ok (.ireturn, 1) := by decide +kernel
theorem dX11_lengthOf_0 : decode mX11_lengthOf.2.1 0 = .ok (.iload_n 1, 1) := by decide +kernel
theorem dX11_lengthOf_1 : decode mX11_lengthOf.2.1 1 = .ok (.iload_n 0, 1) := by decide +kernel
theorem dX11_lengthOf_2 : decode mX11_lengthOf.2.1 2 = .ok (.iload_n 2, 1) := by decide +kernel
theorem dX11_lengthOf_3 : decode mX11_lengthOf.2.1 3 = .ok (.iload_n 1, 1) := by decide +kernel
theorem dX11_lengthOf_4 : decode mX11_lengthOf.2.1 4 = .ok (.imul, 1) := by decide +kernel
theorem dX11_lengthOf_5 : decode mX11_lengthOf.2.1 5 = .ok (.isub, 1) := by decide +kernel
theorem dX11_lengthOf_6 : decode mX11_lengthOf.2.1 6 = .ok (.invokestatic 315, 3) := by decide +kernel
theorem dX11_lengthOf_9 : decode mX11_lengthOf.2.1 9 = .ok (.ireturn, 1) := by decide +kernel
theorem dX11_noise_0 : decode mX11_noise.2.1 0 = .ok (.iload_n 1, 1) := by decide +kernel
theorem dX11_noise_1 : decode mX11_noise.2.1 1 = .ok (.iconst 1, 1) := by decide +kernel
theorem dX11_noise_2 : decode mX11_noise.2.1 2 = .ok (.if_icmp .lt 9, 3) := by decide +kernel
theorem dX11_noise_5 : decode mX11_noise.2.1 5 = .ok (.iload_n 1, 1) := by decide +kernel
theorem dX11_noise_6 : decode mX11_noise.2.1 6 = .ok (.bipush 20, 2) := by decide +kernel
theorem dX11_noise_8 : decode mX11_noise.2.1 8 = .ok (.if_icmp .le 5, 3) := by decide +kernel
theorem dX11_noise_11 : decode mX11_noise.2.1 11 = .ok (.iconst (-1), 1) := by decide +kernel
theorem dX11_noise_12 : decode mX11_noise.2.1 12 = .ok (.ireturn, 1) := by decide +kernel
theorem dX11_noise_13 : decode mX11_noise.2.1 13 = .ok (.aload_n 0, 1) := by decide +kernel
theorem dX11_noise_14 : decode mX11_noise.2.1 14 = .ok (.getfield 76, 3) := by decide +kernel
theorem dX11_noise_17 : decode mX11_noise.2.1 17 = .ok (.aload_n 0, 1) := by decide +kernel
theorem dX11_noise_18 : decode mX11_noise.2.1 18 = .ok (.getfield 20, 3) := by decide +kernel
theorem dX11_noise_21 : decode mX11_noise.2.1 21 = .ok (.iload_n 1, 1) := by decide +kernel
theorem dX11_noise_22 : decode mX11_noise.2.1 22 = .ok (.invokevirtual 309, 3) := by decide +kernel
theorem dX11_noise_25 : decode mX11_noise.2.1 25 = .ok (.ireturn, 1) := by decide +kernel
theorem dX11_order_0 : decode mX11_order.2.1 0 = .ok (.aload_n 0, 1) := by decide +kernel
theorem dX11_order_1 : decode mX11_order.2.1 1 = .ok (.getfield 34, 3) := by decide +kernel
theorem dX11_order_4 : decode mX11_order.2.1 4 = .ok (.iload_n 1, 1) := by decide +kernel
theorem dX11_order_5 : decode mX11_order.2.1 5 = .ok (.invokevirtual 204, 3) := by decide +kernel
theorem dX11_order_8 : decode mX11_order.2.1 8 = .ok (.ifCond .eq 17, 3) := by decide +kernel
theorem dX11_order_11 : decode mX11_order.2.1 11 = .ok (.aload_n 0, 1) := by decide +kernel
theorem dX11_order_12 : decode mX11_order.2.1 12 = .ok (.getfield 34, 3) := by decide +kernel
theorem dX11_order_15 : decode mX11_order.2.1 15 = .ok (.getfield 117, 3) := by decide +kernel
theorem dX11_order_18 : decode mX11_order.2.1 18 = .ok (.iload_n 2, 1) := by decide +kernel
theorem dX11_order_19 : decode mX11_order.2.1 19 = .ok (.invokevirtual 175, 3) := by decide +kernel
theorem dX11_order_22 : decode mX11_order.2.1 22 = .ok (.ifCond .ne 5, 3) := by decide +kernel
theorem dX11_order_25 : decode mX11_order.2.1 25 = .ok (.iconst (-1), 1) := by decide +kernel
theorem dX11_order_26 : decode mX11_order.2.1 26 = .ok (.ireturn, 1) := by decide +kernel
theorem dX11_order_27 : decode mX11_order.2.1 27 = .ok (.aload_n 0, 1) := by decide +kernel
theorem dX11_order_28 : decode mX11_order.2.1 28 = .ok (.getfield 34, 3) := by decide +kernel
theorem dX11_order_31 : decode mX11_order.2.1 31 = .ok (.iload_n 1, 1) := by decide +kernel
theorem dX11_order_32 : decode mX11_order.2.1 32 = .ok (.iload_n 2, 1) := by decide +kernel
theorem dX11_order_33 : decode mX11_order.2.1 33 = .ok (.invokevirtual 207, 3) := by decide +kernel
theorem dX11_order_36 : decode mX11_order.2.1 36 = .ok (.ireturn, 1) := by decide +kernel
theorem dX11_pass_0 : decode mX11_pass.2.1 0 = .ok (.aload_n 0, 1) := by decide +kernel
theorem dX11_pass_1 : decode mX11_pass.2.1 1 = .ok (.invokevirtual 135, 3) := by decide +kernel
theorem dX11_pass_4 : decode mX11_pass.2.1 4 = .ok (.ifCond .eq 22, 3) := by decide +kernel
theorem dX11_pass_7 : decode mX11_pass.2.1 7 = .ok (.aload_n 0, 1) := by decide +kernel
theorem dX11_pass_8 : decode mX11_pass.2.1 8 = .ok (.getfield 34, 3) := by decide +kernel
theorem dX11_pass_11 : decode mX11_pass.2.1 11 = .ok (.getfield 139, 3) := by decide +kernel
theorem dX11_pass_14 : decode mX11_pass.2.1 14 = .ok (.aload_n 0, 1) := by decide +kernel
theorem dX11_pass_15 : decode mX11_pass.2.1 15 = .ok (.getfield 20, 3) := by decide +kernel
theorem dX11_pass_18 : decode mX11_pass.2.1 18 = .ok (.bipush 6, 2) := by decide +kernel
theorem dX11_pass_20 : decode mX11_pass.2.1 20 = .ok (.invokevirtual 105, 3) := by decide +kernel
theorem dX11_pass_23 : decode mX11_pass.2.1 23 = .ok (.if_icmp .lt 5, 3) := by decide +kernel
theorem dX11_pass_26 : decode mX11_pass.2.1 26 = .ok (.iconst (-1), 1) := by decide +kernel
theorem dX11_pass_27 : decode mX11_pass.2.1 27 = .ok (.ireturn, 1) := by decide +kernel
theorem dX11_pass_28 : decode mX11_pass.2.1 28 = .ok (.aload_n 0, 1) := by decide +kernel
theorem dX11_pass_29 : decode mX11_pass.2.1 29 = .ok (.getfield 41, 3) := by decide +kernel
theorem dX11_pass_32 : decode mX11_pass.2.1 32 = .ok (.aload_n 0, 1) := by decide +kernel
theorem dX11_pass_33 : decode mX11_pass.2.1 33 = .ok (.getfield 34, 3) := by decide +kernel
theorem dX11_pass_36 : decode mX11_pass.2.1 36 = .ok (.invokevirtual 109, 3) := by decide +kernel
theorem dX11_pass_39 : decode mX11_pass.2.1 39 = .ok (.aload_n 0, 1) := by decide +kernel
theorem dX11_pass_40 : decode mX11_pass.2.1 40 = .ok (.getfield 55, 3) := by decide +kernel
theorem dX11_pass_43 : decode mX11_pass.2.1 43 = .ok (.aload_n 0, 1) := by decide +kernel
theorem dX11_pass_44 : decode mX11_pass.2.1 44 = .ok (.getfield 34, 3) := by decide +kernel
theorem dX11_pass_47 : decode mX11_pass.2.1 47 = .ok (.aload_n 0, 1) := by decide +kernel
theorem dX11_pass_48 : decode mX11_pass.2.1 48 = .ok (.getfield 20, 3) := by decide +kernel
theorem dX11_pass_51 : decode mX11_pass.2.1 51 = .ok (.iconst 5, 1) := by decide +kernel
theorem dX11_pass_52 : decode mX11_pass.2.1 52 = .ok (.invokevirtual 105, 3) := by decide +kernel
theorem dX11_pass_55 : decode mX11_pass.2.1 55 = .ok (.invokevirtual 142, 3) := by decide +kernel
theorem dX11_pass_58 : decode mX11_pass.2.1 58 = .ok (.ireturn, 1) := by decide +kernel
theorem dX11_plan_0 : decode mX11_plan.2.1 0 = .ok (.aload_n 0, 1) := by decide +kernel
theorem dX11_plan_1 : decode mX11_plan.2.1 1 = .ok (.getfield 27, 3) := by decide +kernel
theorem dX11_plan_4 : decode mX11_plan.2.1 4 = .ok (.aload_n 0, 1) := by decide +kernel
theorem dX11_plan_5 : decode mX11_plan.2.1 5 = .ok (.getfield 9, 3) := by decide +kernel
theorem dX11_plan_8 : decode mX11_plan.2.1 8 = .ok (.aload_n 0, 1) := by decide +kernel
theorem dX11_plan_9 : decode mX11_plan.2.1 9 = .ok (.getfield 13, 3) := by decide +kernel
theorem dX11_plan_12 : decode mX11_plan.2.1 12 = .ok (.invokevirtual 84, 3) := by decide +kernel
theorem dX11_plan_15 : decode mX11_plan.2.1 15 = .ok (.istore_n 1, 1) := by decide +kernel
theorem dX11_plan_16 : decode mX11_plan.2.1 16 = .ok (.aload_n 0, 1) := by decide +kernel
theorem dX11_plan_17 : decode mX11_plan.2.1 17 = .ok (.iconst 0, 1) := by decide +kernel
theorem dX11_plan_18 : decode mX11_plan.2.1 18 = .ok (.putfield 13, 3) := by decide +kernel
theorem dX11_plan_21 : decode mX11_plan.2.1 21 = .ok (.iload_n 1, 1) := by decide +kernel
theorem dX11_plan_22 : decode mX11_plan.2.1 22 = .ok (.ifCond .ge 5, 3) := by decide +kernel
theorem dX11_plan_25 : decode mX11_plan.2.1 25 = .ok (.iload_n 1, 1) := by decide +kernel
theorem dX11_plan_26 : decode mX11_plan.2.1 26 = .ok (.ireturn, 1) := by decide +kernel
theorem dX11_plan_27 : decode mX11_plan.2.1 27 = .ok (.aload_n 0, 1) := by decide +kernel
theorem dX11_plan_28 : decode mX11_plan.2.1 28 = .ok (.getfield 20, 3) := by decide +kernel
theorem dX11_plan_31 : decode mX11_plan.2.1 31 = .ok (.aload_n 0, 1) := by decide +kernel
theorem dX11_plan_32 : decode mX11_plan.2.1 32 = .ok (.getfield 27, 3) := by decide +kernel
theorem dX11_plan_35 : decode mX11_plan.2.1 35 = .ok (.getfield 88, 3) := by decide +kernel
theorem dX11_plan_38 : decode mX11_plan.2.1 38 = .ok (.invokevirtual 91, 3) := by decide +kernel
theorem dX11_plan_41 : decode mX11_plan.2.1 41 = .ok (.aload_n 0, 1) := by decide +kernel
theorem dX11_plan_42 : decode mX11_plan.2.1 42 = .ok (.getfield 34, 3) := by decide +kernel
theorem dX11_plan_45 : decode mX11_plan.2.1 45 = .ok (.invokevirtual 95, 3) := by decide +kernel
theorem dX11_plan_48 : decode mX11_plan.2.1 48 = .ok (.aload_n 0, 1) := by decide +kernel
theorem dX11_plan_49 : decode mX11_plan.2.1 49 = .ok (.getfield 41, 3) := by decide +kernel
theorem dX11_plan_52 : decode mX11_plan.2.1 52 = .ok (.invokevirtual 98, 3) := by decide +kernel
theorem dX11_plan_55 : decode mX11_plan.2.1 55 = .ok (.aload_n 0, 1) := by decide +kernel
theorem dX11_plan_56 : decode mX11_plan.2.1 56 = .ok (.getfield 49, 3) := by decide +kernel
theorem dX11_plan_59 : decode mX11_plan.2.1 59 = .ok (.iconst 0, 1) := by decide +kernel
theorem dX11_plan_60 : decode mX11_plan.2.1 60 = .ok (.invokestatic 99, 3) := by decide +kernel
theorem dX11_plan_63 : decode mX11_plan.2.1 63 = .ok (.iload_n 1, 1) := by decide +kernel
theorem dX11_plan_64 : decode mX11_plan.2.1 64 = .ok (.ireturn, 1) := by decide +kernel
theorem dX11_rank_0 : decode mX11_rank.2.1 0 = .ok (.aload_n 0, 1) := by decide +kernel
theorem dX11_rank_1 : decode mX11_rank.2.1 1 = .ok (.getfield 69, 3) := by decide +kernel
theorem dX11_rank_4 : decode mX11_rank.2.1 4 = .ok (.invokevirtual 268, 3) := by decide +kernel
theorem dX11_rank_7 : decode mX11_rank.2.1 7 = .ok (.aload_n 0, 1) := by decide +kernel
theorem dX11_rank_8 : decode mX11_rank.2.1 8 = .ok (.getfield 69, 3) := by decide +kernel
theorem dX11_rank_11 : decode mX11_rank.2.1 11 = .ok (.aload_n 0, 1) := by decide +kernel
theorem dX11_rank_12 : decode mX11_rank.2.1 12 = .ok (.getfield 34, 3) := by decide +kernel
theorem dX11_rank_15 : decode mX11_rank.2.1 15 = .ok (.getfield 210, 3) := by decide +kernel
theorem dX11_rank_18 : decode mX11_rank.2.1 18 = .ok (.invokevirtual 269, 3) := by decide +kernel
theorem dX11_rank_21 : decode mX11_rank.2.1 21 = .ok (.aload_n 0, 1) := by decide +kernel
theorem dX11_rank_22 : decode mX11_rank.2.1 22 = .ok (.getfield 69, 3) := by decide +kernel
theorem dX11_rank_25 : decode mX11_rank.2.1 25 = .ok (.getfield 273, 3) := by decide +kernel
theorem dX11_rank_28 : decode mX11_rank.2.1 28 = .ok (.ireturn, 1) := by decide +kernel
theorem dX11_rounds_0 : decode mX11_rounds.2.1 0 = .ok (.iload_n 1, 1) := by decide +kernel
theorem dX11_rounds_1 : decode mX11_rounds.2.1 1 = .ok (.ifCond .lt 15, 3) := by decide +kernel
theorem dX11_rounds_4 : decode mX11_rounds.2.1 4 = .ok (.iload_n 1, 1) := by decide +kernel
theorem dX11_rounds_5 : decode mX11_rounds.2.1 5 = .ok (.iconst 1, 1) := by decide +kernel
theorem dX11_rounds_6 : decode mX11_rounds.2.1 6 = .ok (.if_icmp .gt 10, 3) := by decide +kernel
theorem dX11_rounds_9 : decode mX11_rounds.2.1 9 = .ok (.aload_n 0, 1) := by decide +kernel
theorem dX11_rounds_10 : decode mX11_rounds.2.1 10 = .ok (.invokevirtual 135, 3) := by decide +kernel
theorem dX11_rounds_13 : decode mX11_rounds.2.1 13 = .ok (.ifCond .ne 5, 3) := by decide +kernel
theorem dX11_rounds_16 : decode mX11_rounds.2.1 16 = .ok (.iconst (-1), 1) := by decide +kernel
theorem dX11_rounds_17 : decode mX11_rounds.2.1 17 = .ok (.ireturn, 1) := by decide +kernel
theorem dX11_rounds_18 : decode mX11_rounds.2.1 18 = .ok (.aload_n 0, 1) := by decide +kernel
theorem dX11_rounds_19 : decode mX11_rounds.2.1 19 = .ok (.getfield 76, 3) := by decide +kernel
theorem dX11_rounds_22 : decode mX11_rounds.2.1 22 = .ok (.aload_n 0, 1) := by decide +kernel
theorem dX11_rounds_23 : decode mX11_rounds.2.1 23 = .ok (.getfield 34, 3) := by decide +kernel
theorem dX11_rounds_26 : decode mX11_rounds.2.1 26 = .ok (.aload_n 0, 1) := by decide +kernel
theorem dX11_rounds_27 : decode mX11_rounds.2.1 27 = .ok (.getfield 20, 3) := by decide +kernel
theorem dX11_rounds_30 : decode mX11_rounds.2.1 30 = .ok (.iload_n 1, 1) := by decide +kernel
theorem dX11_rounds_31 : decode mX11_rounds.2.1 31 = .ok (.invokevirtual 298, 3) := by decide +kernel
theorem dX11_rounds_34 : decode mX11_rounds.2.1 34 = .ok (.ireturn, 1) := by decide +kernel
theorem dX11_sample_0 : decode mX11_sample.2.1 0 = .ok (.aload_n 0, 1) := by decide +kernel
theorem dX11_sample_1 : decode mX11_sample.2.1 1 = .ok (.getfield 34, 3) := by decide +kernel
theorem dX11_sample_4 : decode mX11_sample.2.1 4 = .ok (.getfield 126, 3) := by decide +kernel
theorem dX11_sample_7 : decode mX11_sample.2.1 7 = .ok (.iconst 1, 1) := by decide +kernel
theorem dX11_sample_8 : decode mX11_sample.2.1 8 = .ok (.if_icmp .eq 5, 3) := by decide +kernel
theorem dX11_sample_11 : decode mX11_sample.2.1 11 = .ok (.iconst (-1), 1) := by decide +kernel
theorem dX11_sample_12 : decode mX11_sample.2.1 12 = .ok (.ireturn, 1) := by decide +kernel
theorem dX11_sample_13 : decode mX11_sample.2.1 13 = .ok (.aload_n 0, 1) := by decide +kernel
theorem dX11_sample_14 : decode mX11_sample.2.1 14 = .ok (.getfield 41, 3) := by decide +kernel
theorem dX11_sample_17 : decode mX11_sample.2.1 17 = .ok (.aload_n 0, 1) := by decide +kernel
theorem dX11_sample_18 : decode mX11_sample.2.1 18 = .ok (.getfield 34, 3) := by decide +kernel
theorem dX11_sample_21 : decode mX11_sample.2.1 21 = .ok (.invokevirtual 109, 3) := by decide +kernel
theorem dX11_sample_24 : decode mX11_sample.2.1 24 = .ok (.aload_n 0, 1) := by decide +kernel
theorem dX11_sample_25 : decode mX11_sample.2.1 25 = .ok (.getfield 62, 3) := by decide +kernel
theorem dX11_sample_28 : decode mX11_sample.2.1 28 = .ok (.aload_n 0, 1) := by decide +kernel
theorem dX11_sample_29 : decode mX11_sample.2.1 29 = .ok (.getfield 34, 3) := by decide +kernel
theorem dX11_sample_32 : decode mX11_sample.2.1 32 = .ok (.aload_n 0, 1) := by decide +kernel
theorem dX11_sample_33 : decode mX11_sample.2.1 33 = .ok (.getfield 20, 3) := by decide +kernel
theorem dX11_sample_36 : decode mX11_sample.2.1 36 = .ok (.invokevirtual 129, 3) := by decide +kernel
theorem dX11_sample_39 : decode mX11_sample.2.1 39 = .ok (.aload_n 0, 1) := by decide +kernel
theorem dX11_sample_40 : decode mX11_sample.2.1 40 = .ok (.getfield 34, 3) := by decide +kernel
theorem dX11_sample_43 : decode mX11_sample.2.1 43 = .ok (.getfield 132, 3) := by decide +kernel
theorem dX11_sample_46 : decode mX11_sample.2.1 46 = .ok (.ireturn, 1) := by decide +kernel
theorem dX11_secret_0 : decode mX11_secret.2.1 0 = .ok (.aload_n 0, 1) := by decide +kernel
theorem dX11_secret_1 : decode mX11_secret.2.1 1 = .ok (.getfield 34, 3) := by decide +kernel
theorem dX11_secret_4 : decode mX11_secret.2.1 4 = .ok (.getfield 126, 3) := by decide +kernel
theorem dX11_secret_7 : decode mX11_secret.2.1 7 = .ok (.iconst 5, 1) := by decide +kernel
theorem dX11_secret_8 : decode mX11_secret.2.1 8 = .ok (.if_icmp .eq 5, 3) := by decide +kernel
theorem dX11_secret_11 : decode mX11_secret.2.1 11 = .ok (.iconst (-1), 1) := by decide +kernel
theorem dX11_secret_12 : decode mX11_secret.2.1 12 = .ok (.ireturn, 1) := by decide +kernel
theorem dX11_secret_13 : decode mX11_secret.2.1 13 = .ok (.aload_n 0, 1) := by decide +kernel
theorem dX11_secret_14 : decode mX11_secret.2.1 14 = .ok (.getfield 69, 3) := by decide +kernel
theorem dX11_secret_17 : decode mX11_secret.2.1 17 = .ok (.invokevirtual 268, 3) := by decide +kernel
theorem dX11_secret_20 : decode mX11_secret.2.1 20 = .ok (.aload_n 0, 1) := by decide +kernel
theorem dX11_secret_21 : decode mX11_secret.2.1 21 = .ok (.getfield 69, 3) := by decide +kernel
theorem dX11_secret_24 : decode mX11_secret.2.1 24 = .ok (.aload_n 0, 1) := by decide +kernel
theorem dX11_secret_25 : decode mX11_secret.2.1 25 = .ok (.getfield 34, 3) := by decide +kernel
theorem dX11_secret_28 : decode mX11_secret.2.1 28 = .ok (.getfield 210, 3) := by decide +kernel
theorem dX11_secret_31 : decode mX11_secret.2.1 31 = .ok (.invokevirtual 269, 3) := by decide +kernel
theorem dX11_secret_34 : decode mX11_secret.2.1 34 = .ok (.iload_n 1, 1) := by decide +kernel
theorem dX11_secret_35 : decode mX11_secret.2.1 35 = .ok (.ifCond .eq 17, 3) := by decide +kernel
theorem dX11_secret_38 : decode mX11_secret.2.1 38 = .ok (.aload_n 0, 1) := by decide +kernel
theorem dX11_secret_39 : decode mX11_secret.2.1 39 = .ok (.getfield 69, 3) := by decide +kernel
theorem dX11_secret_42 : decode mX11_secret.2.1 42 = .ok (.aload_n 0, 1) := by decide +kernel
theorem dX11_secret_43 : decode mX11_secret.2.1 43 = .ok (.getfield 34, 3) := by decide +kernel
theorem dX11_secret_46 : decode mX11_secret.2.1 46 = .ok (.getfield 117, 3) := by decide +kernel
theorem dX11_secret_49 : decode mX11_secret.2.1 49 = .ok (.invokevirtual 283, 3) := by decide +kernel
theorem dX11_secret_52 : decode mX11_secret.2.1 52 = .ok (.aload_n 0, 1) := by decide +kernel
theorem dX11_secret_53 : decode mX11_secret.2.1 53 = .ok (.getfield 69, 3) := by decide +kernel
theorem dX11_secret_56 : decode mX11_secret.2.1 56 = .ok (.getfield 273, 3) := by decide +kernel
theorem dX11_secret_59 : decode mX11_secret.2.1 59 = .ok (.istore_n 2, 1) := by decide +kernel
theorem dX11_secret_60 : decode mX11_secret.2.1 60 = .ok (.aload_n 0, 1) := by decide +kernel
theorem dX11_secret_61 : decode mX11_secret.2.1 61 = .ok (.getfield 69, 3) := by decide +kernel
theorem dX11_secret_64 : decode mX11_secret.2.1 64 = .ok (.aload_n 0, 1) := by decide +kernel
theorem dX11_secret_65 : decode mX11_secret.2.1 65 = .ok (.getfield 34, 3) := by decide +kernel
theorem dX11_secret_68 : decode mX11_secret.2.1 68 = .ok (.getfield 159, 3) := by decide +kernel
theorem dX11_secret_71 : decode mX11_secret.2.1 71 = .ok (.aload_n 0, 1) := by decide +kernel
theorem dX11_secret_72 : decode mX11_secret.2.1 72 = .ok (.getfield 34, 3) := by decide +kernel
theorem dX11_secret_75 : decode mX11_secret.2.1 75 = .ok (.getfield 117, 3) := by decide +kernel
theorem dX11_secret_78 : decode mX11_secret.2.1 78 = .ok (.getfield 121, 3) := by decide +kernel
theorem dX11_secret_81 : decode mX11_secret.2.1 81 = .ok (.invokevirtual 287, 3) := by decide +kernel
theorem dX11_secret_84 : decode mX11_secret.2.1 84 = .ok (.aload_n 0, 1) := by decide +kernel
theorem dX11_secret_85 : decode mX11_secret.2.1 85 = .ok (.getfield 69, 3) := by decide +kernel
theorem dX11_secret_88 : decode mX11_secret.2.1 88 = .ok (.getfield 273, 3) := by decide +kernel
theorem dX11_secret_91 : decode mX11_secret.2.1 91 = .ok (.iload_n 2, 1) := by decide +kernel
theorem dX11_secret_92 : decode mX11_secret.2.1 92 = .ok (.isub, 1) := by decide +kernel
theorem dX11_secret_93 : decode mX11_secret.2.1 93 = .ok (.ireturn, 1) := by decide +kernel
theorem dX11_seeds_0 : decode mX11_seeds.2.1 0 = .ok (.iload_n 1, 1) := by decide +kernel
theorem dX11_seeds_1 : decode mX11_seeds.2.1 1 = .ok (.iconst 1, 1) := by decide +kernel
theorem dX11_seeds_2 : decode mX11_seeds.2.1 2 = .ok (.if_icmp .lt 18, 3) := by decide +kernel
theorem dX11_seeds_5 : decode mX11_seeds.2.1 5 = .ok (.iload_n 1, 1) := by decide +kernel
theorem dX11_seeds_6 : decode mX11_seeds.2.1 6 = .ok (.bipush 20, 2) := by decide +kernel
theorem dX11_seeds_8 : decode mX11_seeds.2.1 8 = .ok (.if_icmp .gt 12, 3) := by decide +kernel
theorem dX11_seeds_11 : decode mX11_seeds.2.1 11 = .ok (.iload_n 2, 1) := by decide +kernel
theorem dX11_seeds_12 : decode mX11_seeds.2.1 12 = .ok (.ifCond .lt 8, 3) := by decide +kernel
theorem dX11_seeds_15 : decode mX11_seeds.2.1 15 = .ok (.iload_n 2, 1) := by decide +kernel
theorem dX11_seeds_16 : decode mX11_seeds.2.1 16 = .ok (.iconst 2, 1) := by decide +kernel
theorem dX11_seeds_17 : decode mX11_seeds.2.1 17 = .ok (.if_icmp .le 5, 3) := by decide +kernel
theorem dX11_seeds_20 : decode mX11_seeds.2.1 20 = .ok (.iconst (-1), 1) := by decide +kernel
theorem dX11_seeds_21 : decode mX11_seeds.2.1 21 = .ok (.ireturn, 1) := by decide +kernel
theorem dX11_seeds_22 : decode mX11_seeds.2.1 22 = .ok (.aload_n 0, 1) := by decide +kernel
theorem dX11_seeds_23 : decode mX11_seeds.2.1 23 = .ok (.getfield 76, 3) := by decide +kernel
theorem dX11_seeds_26 : decode mX11_seeds.2.1 26 = .ok (.aload_n 0, 1) := by decide +kernel
theorem dX11_seeds_27 : decode mX11_seeds.2.1 27 = .ok (.getfield 20, 3) := by decide +kernel
theorem dX11_seeds_30 : decode mX11_seeds.2.1 30 = .ok (.iload_n 1, 1) := by decide +kernel
theorem dX11_seeds_31 : decode mX11_seeds.2.1 31 = .ok (.iload_n 2, 1) := by decide +kernel
theorem dX11_seeds_32 : decode mX11_seeds.2.1 32 = .ok (.invokevirtual 305, 3) := by decide +kernel
theorem dX11_seeds_35 : decode mX11_seeds.2.1 35 = .ok (.ireturn, 1) := by decide +kernel
theorem dX11_send_0 : decode mX11_send.2.1 0 = .ok (.iload_n 1, 1) := by decide +kernel
theorem dX11_send_1 : decode mX11_send.2.1 1 = .ok (.ifCond .lt 36, 3) := by decide +kernel
theorem dX11_send_4 : decode mX11_send.2.1 4 = .ok (.iload_n 1, 1) := by decide +kernel
theorem dX11_send_5 : decode mX11_send.2.1 5 = .ok (.sipush 255, 3) := by decide +kernel
theorem dX11_send_8 : decode mX11_send.2.1 8 = .ok (.if_icmp .gt 29, 3) := by decide +kernel
theorem dX11_send_11 : decode mX11_send.2.1 11 = .ok (.aload_n 0, 1) := by decide +kernel
theorem dX11_send_12 : decode mX11_send.2.1 12 = .ok (.getfield 34, 3) := by decide +kernel
theorem dX11_send_15 : decode mX11_send.2.1 15 = .ok (.getfield 126, 3) := by decide +kernel
theorem dX11_send_18 : decode mX11_send.2.1 18 = .ok (.iconst 5, 1) := by decide +kernel
theorem dX11_send_19 : decode mX11_send.2.1 19 = .ok (.if_icmp .ne 18, 3) := by decide +kernel
theorem dX11_send_22 : decode mX11_send.2.1 22 = .ok (.aload_n 0, 1) := by decide +kernel
theorem dX11_send_23 : decode mX11_send.2.1 23 = .ok (.getfield 34, 3) := by decide +kernel
theorem dX11_send_26 : decode mX11_send.2.1 26 = .ok (.getfield 159, 3) := by decide +kernel
theorem dX11_send_29 : decode mX11_send.2.1 29 = .ok (.invokevirtual 168, 3) := by decide +kernel
theorem dX11_send_32 : decode mX11_send.2.1 32 = .ok (.bipush 8, 2) := by decide +kernel
theorem dX11_send_34 : decode mX11_send.2.1 34 = .ok (.if_icmp .ge 5, 3) := by decide +kernel
theorem dX11_send_37 : decode mX11_send.2.1 37 = .ok (.iconst (-1), 1) := by decide +kernel
theorem dX11_send_38 : decode mX11_send.2.1 38 = .ok (.ireturn, 1) := by decide +kernel
theorem dX11_send_39 : decode mX11_send.2.1 39 = .ok (.aload_n 0, 1) := by decide +kernel
theorem dX11_send_40 : decode mX11_send.2.1 40 = .ok (.getfield 41, 3) := by decide +kernel
theorem dX11_send_43 : decode mX11_send.2.1 43 = .ok (.aload_n 0, 1) := by decide +kernel
theorem dX11_send_44 : decode mX11_send.2.1 44 = .ok (.getfield 34, 3) := by decide +kernel
theorem dX11_send_47 : decode mX11_send.2.1 47 = .ok (.invokevirtual 109, 3) := by decide +kernel
theorem dX11_send_50 : decode mX11_send.2.1 50 = .ok (.aload_n 0, 1) := by decide +kernel
theorem dX11_send_51 : decode mX11_send.2.1 51 = .ok (.getfield 34, 3) := by decide +kernel
theorem dX11_send_54 : decode mX11_send.2.1 54 = .ok (.getfield 159, 3) := by decide +kernel
theorem dX11_send_57 : decode mX11_send.2.1 57 = .ok (.iload_n 1, 1) := by decide +kernel
theorem dX11_send_58 : decode mX11_send.2.1 58 = .ok (.invokevirtual 172, 3) := by decide +kernel
theorem dX11_send_61 : decode mX11_send.2.1 61 = .ok (.ireturn, 1) := by decide +kernel
theorem dX11_setting_0 : decode mX11_setting.2.1 0 = .ok (.aload_n 0, 1) := by decide +kernel
theorem dX11_setting_1 : decode mX11_setting.2.1 1 = .ok (.getfield 20, 3) := by decide +kernel
theorem dX11_setting_4 : decode mX11_setting.2.1 4 = .ok (.iload_n 1, 1) := by decide +kernel
theorem dX11_setting_5 : decode mX11_setting.2.1 5 = .ok (.invokevirtual 105, 3) := by decide +kernel
theorem dX11_setting_8 : decode mX11_setting.2.1 8 = .ok (.ireturn, 1) := by decide +kernel
theorem dX11_shorten_0 : decode mX11_shorten.2.1 0 = .ok (.aload_n 0, 1) := by decide +kernel
theorem dX11_shorten_1 : decode mX11_shorten.2.1 1 = .ok (.getfield 34, 3) := by decide +kernel
theorem dX11_shorten_4 : decode mX11_shorten.2.1 4 = .ok (.getfield 126, 3) := by decide +kernel
theorem dX11_shorten_7 : decode mX11_shorten.2.1 7 = .ok (.iconst 4, 1) := by decide +kernel
theorem dX11_shorten_8 : decode mX11_shorten.2.1 8 = .ok (.if_icmp .eq 5, 3) := by decide +kernel
theorem dX11_shorten_11 : decode mX11_shorten.2.1 11 = .ok (.iconst (-1), 1) := by decide +kernel
theorem dX11_shorten_12 : decode mX11_shorten.2.1 12 = .ok (.ireturn, 1) := by decide +kernel
theorem dX11_shorten_13 : decode mX11_shorten.2.1 13 = .ok (.aload_n 0, 1) := by decide +kernel
theorem dX11_shorten_14 : decode mX11_shorten.2.1 14 = .ok (.getfield 41, 3) := by decide +kernel
theorem dX11_shorten_17 : decode mX11_shorten.2.1 17 = .ok (.aload_n 0, 1) := by decide +kernel
theorem dX11_shorten_18 : decode mX11_shorten.2.1 18 = .ok (.getfield 34, 3) := by decide +kernel
theorem dX11_shorten_21 : decode mX11_shorten.2.1 21 = .ok (.invokevirtual 109, 3) := by decide +kernel
theorem dX11_shorten_24 : decode mX11_shorten.2.1 24 = .ok (.aload_n 0, 1) := by decide +kernel
theorem dX11_shorten_25 : decode mX11_shorten.2.1 25 = .ok (.getfield 62, 3) := by decide +kernel
theorem dX11_shorten_28 : decode mX11_shorten.2.1 28 = .ok (.aload_n 0, 1) := by decide +kernel
theorem dX11_shorten_29 : decode mX11_shorten.2.1 29 = .ok (.getfield 34, 3) := by decide +kernel
theorem dX11_shorten_32 : decode mX11_shorten.2.1 32 = .ok (.aload_n 0, 1) := by decide +kernel
theorem dX11_shorten_33 : decode mX11_shorten.2.1 33 = .ok (.getfield 20, 3) := by decide +kernel
theorem dX11_shorten_36 : decode mX11_shorten.2.1 36 = .ok (.invokevirtual 156, 3) := by decide +kernel
theorem dX11_shorten_39 : decode mX11_shorten.2.1 39 = .ok (.aload_n 0, 1) := by decide +kernel
theorem dX11_shorten_40 : decode mX11_shorten.2.1 40 = .ok (.getfield 34, 3) := by decide +kernel
theorem dX11_shorten_43 : decode mX11_shorten.2.1 43 = .ok (.getfield 159, 3) := by decide +kernel
theorem dX11_shorten_46 : decode mX11_shorten.2.1 46 = .ok (.getfield 163, 3) := by decide +kernel
theorem dX11_shorten_49 : decode mX11_shorten.2.1 49 = .ok (.ireturn, 1) := by decide +kernel
theorem dX11_signal_0 : decode mX11_signal.2.1 0 = .ok (.iload_n 1, 1) := by decide +kernel
theorem dX11_signal_1 : decode mX11_signal.2.1 1 = .ok (.ifCond .lt 23, 3) := by decide +kernel
theorem dX11_signal_4 : decode mX11_signal.2.1 4 = .ok (.iload_n 1, 1) := by decide +kernel
theorem dX11_signal_5 : decode mX11_signal.2.1 5 = .ok (.aload_n 0, 1) := by decide +kernel
theorem dX11_signal_6 : decode mX11_signal.2.1 6 = .ok (.getfield 34, 3) := by decide +kernel
theorem dX11_signal_9 : decode mX11_signal.2.1 9 = .ok (.getfield 191, 3) := by decide +kernel
theorem dX11_signal_12 : decode mX11_signal.2.1 12 = .ok (.if_icmp .ge 12, 3) := by decide +kernel
theorem dX11_signal_15 : decode mX11_signal.2.1 15 = .ok (.iload_n 2, 1) := by decide +kernel
theorem dX11_signal_16 : decode mX11_signal.2.1 16 = .ok (.ifCond .lt 8, 3) := by decide +kernel
theorem dX11_signal_19 : decode mX11_signal.2.1 19 = .ok (.iload_n 2, 1) := by decide +kernel
theorem dX11_signal_20 : decode mX11_signal.2.1 20 = .ok (.iconst 5, 1) := by decide +kernel
theorem dX11_signal_21 : decode mX11_signal.2.1 21 = .ok (.if_icmp .le 5, 3) := by decide +kernel
theorem dX11_signal_24 : decode mX11_signal.2.1 24 = .ok (.iconst (-1), 1) := by decide +kernel
theorem dX11_signal_25 : decode mX11_signal.2.1 25 = .ok (.ireturn, 1) := by decide +kernel
theorem dX11_signal_26 : decode mX11_signal.2.1 26 = .ok (.aload_n 0, 1) := by decide +kernel
theorem dX11_signal_27 : decode mX11_signal.2.1 27 = .ok (.getfield 34, 3) := by decide +kernel
theorem dX11_signal_30 : decode mX11_signal.2.1 30 = .ok (.iload_n 1, 1) := by decide +kernel
theorem dX11_signal_31 : decode mX11_signal.2.1 31 = .ok (.iload_n 2, 1) := by decide +kernel
theorem dX11_signal_32 : decode mX11_signal.2.1 32 = .ok (.invokevirtual 194, 3) := by decide +kernel
theorem dX11_signal_35 : decode mX11_signal.2.1 35 = .ok (.ireturn, 1) := by decide +kernel
theorem dX11_slip_0 : decode mX11_slip.2.1 0 = .ok (.aload_n 0, 1) := by decide +kernel
theorem dX11_slip_1 : decode mX11_slip.2.1 1 = .ok (.getfield 34, 3) := by decide +kernel
theorem dX11_slip_4 : decode mX11_slip.2.1 4 = .ok (.getfield 126, 3) := by decide +kernel
theorem dX11_slip_7 : decode mX11_slip.2.1 7 = .ok (.iconst 1, 1) := by decide +kernel
theorem dX11_slip_8 : decode mX11_slip.2.1 8 = .ok (.if_icmp .lt 28, 3) := by decide +kernel
theorem dX11_slip_11 : decode mX11_slip.2.1 11 = .ok (.aload_n 0, 1) := by decide +kernel
theorem dX11_slip_12 : decode mX11_slip.2.1 12 = .ok (.getfield 34, 3) := by decide +kernel
theorem dX11_slip_15 : decode mX11_slip.2.1 15 = .ok (.getfield 126, 3) := by decide +kernel
theorem dX11_slip_18 : decode mX11_slip.2.1 18 = .ok (.iconst 3, 1) := by decide +kernel
theorem dX11_slip_19 : decode mX11_slip.2.1 19 = .ok (.if_icmp .gt 17, 3) := by decide +kernel
theorem dX11_slip_22 : decode mX11_slip.2.1 22 = .ok (.aload_n 0, 1) := by decide +kernel
theorem dX11_slip_23 : decode mX11_slip.2.1 23 = .ok (.getfield 34, 3) := by decide +kernel
theorem dX11_slip_26 : decode mX11_slip.2.1 26 = .ok (.getfield 117, 3) := by decide +kernel
theorem dX11_slip_29 : decode mX11_slip.2.1 29 = .ok (.iload_n 1, 1) := by decide +kernel
theorem dX11_slip_30 : decode mX11_slip.2.1 30 = .ok (.invokevirtual 175, 3) := by decide +kernel
theorem dX11_slip_33 : decode mX11_slip.2.1 33 = .ok (.ifCond .ne 5, 3) := by decide +kernel
theorem dX11_slip_36 : decode mX11_slip.2.1 36 = .ok (.iconst (-1), 1) := by decide +kernel
theorem dX11_slip_37 : decode mX11_slip.2.1 37 = .ok (.ireturn, 1) := by decide +kernel
theorem dX11_slip_38 : decode mX11_slip.2.1 38 = .ok (.aload_n 0, 1) := by decide +kernel
theorem dX11_slip_39 : decode mX11_slip.2.1 39 = .ok (.getfield 41, 3) := by decide +kernel
theorem dX11_slip_42 : decode mX11_slip.2.1 42 = .ok (.aload_n 0, 1) := by decide +kernel
theorem dX11_slip_43 : decode mX11_slip.2.1 43 = .ok (.getfield 34, 3) := by decide +kernel
theorem dX11_slip_46 : decode mX11_slip.2.1 46 = .ok (.invokevirtual 109, 3) := by decide +kernel
theorem dX11_slip_49 : decode mX11_slip.2.1 49 = .ok (.aload_n 0, 1) := by decide +kernel
theorem dX11_slip_50 : decode mX11_slip.2.1 50 = .ok (.getfield 34, 3) := by decide +kernel
theorem dX11_slip_53 : decode mX11_slip.2.1 53 = .ok (.getfield 117, 3) := by decide +kernel
theorem dX11_slip_56 : decode mX11_slip.2.1 56 = .ok (.iload_n 1, 1) := by decide +kernel
theorem dX11_slip_57 : decode mX11_slip.2.1 57 = .ok (.invokevirtual 179, 3) := by decide +kernel
theorem dX11_slip_60 : decode mX11_slip.2.1 60 = .ok (.aload_n 0, 1) := by decide +kernel
theorem dX11_slip_61 : decode mX11_slip.2.1 61 = .ok (.getfield 34, 3) := by decide +kernel
theorem dX11_slip_64 : decode mX11_slip.2.1 64 = .ok (.getfield 117, 3) := by decide +kernel
theorem dX11_slip_67 : decode mX11_slip.2.1 67 = .ok (.invokevirtual 182, 3) := by decide +kernel
theorem dX11_slip_70 : decode mX11_slip.2.1 70 = .ok (.ireturn, 1) := by decide +kernel
theorem dX11_spied_0 : decode mX11_spied.2.1 0 = .ok (.iload_n 1, 1) := by decide +kernel
theorem dX11_spied_1 : decode mX11_spied.2.1 1 = .ok (.iconst (-1), 1) := by decide +kernel
theorem dX11_spied_2 : decode mX11_spied.2.1 2 = .ok (.if_icmp .ne 14, 3) := by decide +kernel
theorem dX11_spied_5 : decode mX11_spied.2.1 5 = .ok (.aload_n 0, 1) := by decide +kernel
theorem dX11_spied_6 : decode mX11_spied.2.1 6 = .ok (.getfield 34, 3) := by decide +kernel
theorem dX11_spied_9 : decode mX11_spied.2.1 9 = .ok (.getfield 117, 3) := by decide +kernel
theorem dX11_spied_12 : decode mX11_spied.2.1 12 = .ok (.invokevirtual 277, 3) := by decide +kernel
theorem dX11_spied_15 : decode mX11_spied.2.1 15 = .ok (.ireturn, 1) := by decide +kernel
theorem dX11_spied_16 : decode mX11_spied.2.1 16 = .ok (.aload_n 0, 1) := by decide +kernel
theorem dX11_spied_17 : decode mX11_spied.2.1 17 = .ok (.getfield 34, 3) := by decide +kernel
theorem dX11_spied_20 : decode mX11_spied.2.1 20 = .ok (.getfield 117, 3) := by decide +kernel
theorem dX11_spied_23 : decode mX11_spied.2.1 23 = .ok (.iload_n 1, 1) := by decide +kernel
theorem dX11_spied_24 : decode mX11_spied.2.1 24 = .ok (.invokevirtual 175, 3) := by decide +kernel
theorem dX11_spied_27 : decode mX11_spied.2.1 27 = .ok (.ifCond .eq 18, 3) := by decide +kernel
theorem dX11_spied_30 : decode mX11_spied.2.1 30 = .ok (.aload_n 0, 1) := by decide +kernel
theorem dX11_spied_31 : decode mX11_spied.2.1 31 = .ok (.getfield 34, 3) := by decide +kernel
theorem dX11_spied_34 : decode mX11_spied.2.1 34 = .ok (.getfield 117, 3) := by decide +kernel
theorem dX11_spied_37 : decode mX11_spied.2.1 37 = .ok (.getfield 280, 3) := by decide +kernel
theorem dX11_spied_40 : decode mX11_spied.2.1 40 = .ok (.iload_n 1, 1) := by decide +kernel
theorem dX11_spied_41 : decode mX11_spied.2.1 41 = .ok (.iaload, 1) := by decide +kernel
theorem dX11_spied_42 : decode mX11_spied.2.1 42 = .ok (.goto 4, 3) := by decide +kernel
theorem dX11_spied_45 : decode mX11_spied.2.1 45 = .ok (.iconst (-1), 1) := by decide +kernel
theorem dX11_spied_46 : decode mX11_spied.2.1 46 = .ok (.ireturn, 1) := by decide +kernel
theorem dX11_tapeFour_0 : decode mX11_tapeFour.2.1 0 = .ok (.bipush 24, 2) := by decide +kernel
theorem dX11_tapeFour_2 : decode mX11_tapeFour.2.1 2 = .ok (.istore_n 2, 1) := by decide +kernel
theorem dX11_tapeFour_3 : decode mX11_tapeFour.2.1 3 = .ok (.iload_n 2, 1) := by decide +kernel
theorem dX11_tapeFour_4 : decode mX11_tapeFour.2.1 4 = .ok (.ifCond .lt 45, 3) := by decide +kernel
theorem dX11_tapeFour_7 : decode mX11_tapeFour.2.1 7 = .ok (.aload_n 0, 1) := by decide +kernel
theorem dX11_tapeFour_8 : decode mX11_tapeFour.2.1 8 = .ok (.getfield 13, 3) := by decide +kernel
theorem dX11_tapeFour_11 : decode mX11_tapeFour.2.1 11 = .ok (.sipush 200, 3) := by decide +kernel
theorem dX11_tapeFour_14 : decode mX11_tapeFour.2.1 14 = .ok (.if_icmp .ge 29, 3) := by decide +kernel
theorem dX11_tapeFour_17 : decode mX11_tapeFour.2.1 17 = .ok (.aload_n 0, 1) := by decide +kernel
theorem dX11_tapeFour_18 : decode mX11_tapeFour.2.1 18 = .ok (.getfield 9, 3) := by decide +kernel
theorem dX11_tapeFour_21 : decode mX11_tapeFour.2.1 21 = .ok (.aload_n 0, 1) := by decide +kernel
theorem dX11_tapeFour_22 : decode mX11_tapeFour.2.1 22 = .ok (.getfield 13, 3) := by decide +kernel
theorem dX11_tapeFour_25 : decode mX11_tapeFour.2.1 25 = .ok (.iload_n 1, 1) := by decide +kernel
theorem dX11_tapeFour_26 : decode mX11_tapeFour.2.1 26 = .ok (.iload_n 2, 1) := by decide +kernel
theorem dX11_tapeFour_27 : decode mX11_tapeFour.2.1 27 = .ok (.iushr, 1) := by decide +kernel
theorem dX11_tapeFour_28 : decode mX11_tapeFour.2.1 28 = .ok (.sipush 255, 3) := by decide +kernel
theorem dX11_tapeFour_31 : decode mX11_tapeFour.2.1 31 = .ok (.iand, 1) := by decide +kernel
theorem dX11_tapeFour_32 : decode mX11_tapeFour.2.1 32 = .ok (.iastore, 1) := by decide +kernel
theorem dX11_tapeFour_33 : decode mX11_tapeFour.2.1 33 = .ok (.aload_n 0, 1) := by decide +kernel
theorem dX11_tapeFour_34 : decode mX11_tapeFour.2.1 34 = .ok (.dup, 1) := by decide +kernel
theorem dX11_tapeFour_35 : decode mX11_tapeFour.2.1 35 = .ok (.getfield 13, 3) := by decide +kernel
theorem dX11_tapeFour_38 : decode mX11_tapeFour.2.1 38 = .ok (.iconst 1, 1) := by decide +kernel
theorem dX11_tapeFour_39 : decode mX11_tapeFour.2.1 39 = .ok (.iadd, 1) := by decide +kernel
theorem dX11_tapeFour_40 : decode mX11_tapeFour.2.1 40 = .ok (.putfield 13, 3) := by decide +kernel
theorem dX11_tapeFour_43 : decode mX11_tapeFour.2.1 43 = .ok (.iinc 2 (-8), 3) := by decide +kernel
theorem dX11_tapeFour_46 : decode mX11_tapeFour.2.1 46 = .ok (.goto (-43), 3) := by decide +kernel
theorem dX11_tapeFour_49 : decode mX11_tapeFour.2.1 49 = .ok (.return_, 1) := by decide +kernel
theorem dX11_undo_0 : decode mX11_undo.2.1 0 = .ok (.aload_n 0, 1) := by decide +kernel
theorem dX11_undo_1 : decode mX11_undo.2.1 1 = .ok (.getfield 41, 3) := by decide +kernel
theorem dX11_undo_4 : decode mX11_undo.2.1 4 = .ok (.getfield 185, 3) := by decide +kernel
theorem dX11_undo_7 : decode mX11_undo.2.1 7 = .ok (.ifCond .ne 5, 3) := by decide +kernel
theorem dX11_undo_10 : decode mX11_undo.2.1 10 = .ok (.iconst (-1), 1) := by decide +kernel
theorem dX11_undo_11 : decode mX11_undo.2.1 11 = .ok (.ireturn, 1) := by decide +kernel
theorem dX11_undo_12 : decode mX11_undo.2.1 12 = .ok (.aload_n 0, 1) := by decide +kernel
theorem dX11_undo_13 : decode mX11_undo.2.1 13 = .ok (.getfield 41, 3) := by decide +kernel
theorem dX11_undo_16 : decode mX11_undo.2.1 16 = .ok (.aload_n 0, 1) := by decide +kernel
theorem dX11_undo_17 : decode mX11_undo.2.1 17 = .ok (.getfield 34, 3) := by decide +kernel
theorem dX11_undo_20 : decode mX11_undo.2.1 20 = .ok (.invokevirtual 188, 3) := by decide +kernel
theorem dX11_undo_23 : decode mX11_undo.2.1 23 = .ok (.aload_n 0, 1) := by decide +kernel
theorem dX11_undo_24 : decode mX11_undo.2.1 24 = .ok (.getfield 41, 3) := by decide +kernel
theorem dX11_undo_27 : decode mX11_undo.2.1 27 = .ok (.getfield 185, 3) := by decide +kernel
theorem dX11_undo_30 : decode mX11_undo.2.1 30 = .ok (.ireturn, 1) := by decide +kernel
theorem dX11_winnow_0 : decode mX11_winnow.2.1 0 = .ok (.aload_n 0, 1) := by decide +kernel
theorem dX11_winnow_1 : decode mX11_winnow.2.1 1 = .ok (.invokevirtual 135, 3) := by decide +kernel
theorem dX11_winnow_4 : decode mX11_winnow.2.1 4 = .ok (.ifCond .eq 15, 3) := by decide +kernel
theorem dX11_winnow_7 : decode mX11_winnow.2.1 7 = .ok (.aload_n 0, 1) := by decide +kernel
theorem dX11_winnow_8 : decode mX11_winnow.2.1 8 = .ok (.getfield 34, 3) := by decide +kernel
theorem dX11_winnow_11 : decode mX11_winnow.2.1 11 = .ok (.getfield 146, 3) := by decide +kernel
theorem dX11_winnow_14 : decode mX11_winnow.2.1 14 = .ok (.bipush 8, 2) := by decide +kernel
theorem dX11_winnow_16 : decode mX11_winnow.2.1 16 = .ok (.if_icmp .lt 5, 3) := by decide +kernel
theorem dX11_winnow_19 : decode mX11_winnow.2.1 19 = .ok (.iconst (-1), 1) := by decide +kernel
theorem dX11_winnow_20 : decode mX11_winnow.2.1 20 = .ok (.ireturn, 1) := by decide +kernel
theorem dX11_winnow_21 : decode mX11_winnow.2.1 21 = .ok (.aload_n 0, 1) := by decide +kernel
theorem dX11_winnow_22 : decode mX11_winnow.2.1 22 = .ok (.getfield 41, 3) := by decide +kernel
theorem dX11_winnow_25 : decode mX11_winnow.2.1 25 = .ok (.aload_n 0, 1) := by decide +kernel
theorem dX11_winnow_26 : decode mX11_winnow.2.1 26 = .ok (.getfield 34, 3) := by decide +kernel
theorem dX11_winnow_29 : decode mX11_winnow.2.1 29 = .ok (.invokevirtual 109, 3) := by decide +kernel
theorem dX11_winnow_32 : decode mX11_winnow.2.1 32 = .ok (.aload_n 0, 1) := by decide +kernel
theorem dX11_winnow_33 : decode mX11_winnow.2.1 33 = .ok (.getfield 55, 3) := by decide +kernel
theorem dX11_winnow_36 : decode mX11_winnow.2.1 36 = .ok (.aload_n 0, 1) := by decide +kernel
theorem dX11_winnow_37 : decode mX11_winnow.2.1 37 = .ok (.getfield 34, 3) := by decide +kernel
theorem dX11_winnow_40 : decode mX11_winnow.2.1 40 = .ok (.invokevirtual 149, 3) := by decide +kernel
theorem dX11_winnow_43 : decode mX11_winnow.2.1 43 = .ok (.ireturn, 1) := by decide +kernel
theorem dX11_would_0 : decode mX11_would.2.1 0 = .ok (.iload_n 1, 1) := by decide +kernel
theorem dX11_would_1 : decode mX11_would.2.1 1 = .ok (.ifCond .lt 25, 3) := by decide +kernel
theorem dX11_would_4 : decode mX11_would.2.1 4 = .ok (.iload_n 1, 1) := by decide +kernel
theorem dX11_would_5 : decode mX11_would.2.1 5 = .ok (.bipush 6, 2) := by decide +kernel
theorem dX11_would_7 : decode mX11_would.2.1 7 = .ok (.if_icmp .gt 19, 3) := by decide +kernel
theorem dX11_would_10 : decode mX11_would.2.1 10 = .ok (.iload_n 2, 1) := by decide +kernel
theorem dX11_would_11 : decode mX11_would.2.1 11 = .ok (.ifCond .lt 15, 3) := by decide +kernel
theorem dX11_would_14 : decode mX11_would.2.1 14 = .ok (.iload_n 2, 1) := by decide +kernel
theorem dX11_would_15 : decode mX11_would.2.1 15 = .ok (.iconst 1, 1) := by decide +kernel
theorem dX11_would_16 : decode mX11_would.2.1 16 = .ok (.if_icmp .gt 10, 3) := by decide +kernel
theorem dX11_would_19 : decode mX11_would.2.1 19 = .ok (.aload_n 0, 1) := by decide +kernel
theorem dX11_would_20 : decode mX11_would.2.1 20 = .ok (.invokevirtual 135, 3) := by decide +kernel
theorem dX11_would_23 : decode mX11_would.2.1 23 = .ok (.ifCond .ne 5, 3) := by decide +kernel
theorem dX11_would_26 : decode mX11_would.2.1 26 = .ok (.iconst (-1), 1) := by decide +kernel
theorem dX11_would_27 : decode mX11_would.2.1 27 = .ok (.ireturn, 1) := by decide +kernel
theorem dX11_would_28 : decode mX11_would.2.1 28 = .ok (.aload_n 0, 1) := by decide +kernel
theorem dX11_would_29 : decode mX11_would.2.1 29 = .ok (.getfield 76, 3) := by decide +kernel
theorem dX11_would_32 : decode mX11_would.2.1 32 = .ok (.aload_n 0, 1) := by decide +kernel
theorem dX11_would_33 : decode mX11_would.2.1 33 = .ok (.getfield 34, 3) := by decide +kernel
theorem dX11_would_36 : decode mX11_would.2.1 36 = .ok (.aload_n 0, 1) := by decide +kernel
theorem dX11_would_37 : decode mX11_would.2.1 37 = .ok (.getfield 20, 3) := by decide +kernel
theorem dX11_would_40 : decode mX11_would.2.1 40 = .ok (.iload_n 1, 1) := by decide +kernel
theorem dX11_would_41 : decode mX11_would.2.1 41 = .ok (.invokevirtual 291, 3) := by decide +kernel
theorem dX11_would_44 : decode mX11_would.2.1 44 = .ok (.iload_n 2, 1) := by decide +kernel
theorem dX11_would_45 : decode mX11_would.2.1 45 = .ok (.ifCond .ne 19, 3) := by decide +kernel
theorem dX11_would_48 : decode mX11_would.2.1 48 = .ok (.aload_n 0, 1) := by decide +kernel
theorem dX11_would_49 : decode mX11_would.2.1 49 = .ok (.getfield 76, 3) := by decide +kernel
theorem dX11_would_52 : decode mX11_would.2.1 52 = .ok (.getfield 295, 3) := by decide +kernel
theorem dX11_would_55 : decode mX11_would.2.1 55 = .ok (.getfield 117, 3) := by decide +kernel
theorem dX11_would_58 : decode mX11_would.2.1 58 = .ok (.invokevirtual 182, 3) := by decide +kernel
theorem dX11_would_61 : decode mX11_would.2.1 61 = .ok (.goto 16, 3) := by decide +kernel
theorem dX11_would_64 : decode mX11_would.2.1 64 = .ok (.aload_n 0, 1) := by decide +kernel
theorem dX11_would_65 : decode mX11_would.2.1 65 = .ok (.getfield 76, 3) := by decide +kernel
theorem dX11_would_68 : decode mX11_would.2.1 68 = .ok (.getfield 295, 3) := by decide +kernel
theorem dX11_would_71 : decode mX11_would.2.1 71 = .ok (.getfield 210, 3) := by decide +kernel
theorem dX11_would_74 : decode mX11_would.2.1 74 = .ok (.getfield 245, 3) := by decide +kernel
theorem dX11_would_77 : decode mX11_would.2.1 77 = .ok (.ireturn, 1) := by decide +kernel
theorem dX12_adds_0 : decode mX12_adds.2.1 0 = .ok (.aload_n 0, 1) := by decide +kernel
theorem dX12_adds_1 : decode mX12_adds.2.1 1 = .ok (.getfield 58, 3) := by decide +kernel
theorem dX12_adds_4 : decode mX12_adds.2.1 4 = .ok (.iload_n 1, 1) := by decide +kernel
theorem dX12_adds_5 : decode mX12_adds.2.1 5 = .ok (.bipush 32, 2) := by decide +kernel
theorem dX12_adds_7 : decode mX12_adds.2.1 7 = .ok (.idiv, 1) := by decide +kernel
theorem dX12_adds_8 : decode mX12_adds.2.1 8 = .ok (.dup2, 1) := by decide +kernel
theorem dX12_adds_9 : decode mX12_adds.2.1 9 = .ok (.iaload, 1) := by decide +kernel
theorem dX12_adds_10 : decode mX12_adds.2.1 10 = .ok (.iconst 1, 1) := by decide +kernel
theorem dX12_adds_11 : decode mX12_adds.2.1 11 = .ok (.iload_n 1, 1) := by decide +kernel
theorem dX12_adds_12 : decode mX12_adds.2.1 12 = .ok (.bipush 32, 2) := by decide +kernel
theorem dX12_adds_14 : decode mX12_adds.2.1 14 = .ok (.irem, 1) := by decide +kernel
theorem dX12_adds_15 : decode mX12_adds.2.1 15 = .ok (.ishl, 1) := by decide +kernel
theorem dX12_adds_16 : decode mX12_adds.2.1 16 = .ok (.ixor, 1) := by decide +kernel
theorem dX12_adds_17 : decode mX12_adds.2.1 17 = .ok (.iastore, 1) := by decide +kernel
theorem dX12_adds_18 : decode mX12_adds.2.1 18 = .ok (.return_, 1) := by decide +kernel
theorem dX12_areLastAlike_0 : decode mX12_areLastAlike.2.1 0 = .ok (.iconst 0, 1) := by decide +kernel
theorem dX12_areLastAlike_1 : decode mX12_areLastAlike.2.1 1 = .ok (.istore_n 1, 1) := by decide +kernel
theorem dX12_areLastAlike_2 : decode mX12_areLastAlike.2.1 2 = .ok (.iload_n 1, 1) := by decide +kernel
theorem dX12_areLastAlike_3 : decode mX12_areLastAlike.2.1 3 = .ok (.aload_n 0, 1) := by decide +kernel
theorem dX12_areLastAlike_4 : decode mX12_areLastAlike.2.1 4 = .ok (.getfield 37, 3) := by decide +kernel
theorem dX12_areLastAlike_7 : decode mX12_areLastAlike.2.1 7 = .ok (.bipush 6, 2) := by decide +kernel
theorem dX12_areLastAlike_9 : decode mX12_areLastAlike.2.1 9 = .ok (.iaload, 1) := by decide +kernel
theorem dX12_areLastAlike_10 : decode mX12_areLastAlike.2.1 10 = .ok (.if_icmp .ge 34, 3) := by decide +kernel
theorem dX12_areLastAlike_13 : decode mX12_areLastAlike.2.1 13 = .ok (.aload_n 0, 1) := by decide +kernel
theorem dX12_areLastAlike_14 : decode mX12_areLastAlike.2.1 14 = .ok (.getfield 37, 3) := by decide +kernel
theorem dX12_areLastAlike_17 : decode mX12_areLastAlike.2.1 17 = .ok (.sipush 3390, 3) := by decide +kernel
theorem dX12_areLastAlike_20 : decode mX12_areLastAlike.2.1 20 = .ok (.iload_n 1, 1) := by decide +kernel
theorem dX12_areLastAlike_21 : decode mX12_areLastAlike.2.1 21 = .ok (.iadd, 1) := by decide +kernel
theorem dX12_areLastAlike_22 : decode mX12_areLastAlike.2.1 22 = .ok (.iaload, 1) := by decide +kernel
theorem dX12_areLastAlike_23 : decode mX12_areLastAlike.2.1 23 = .ok (.aload_n 0, 1) := by decide +kernel
theorem dX12_areLastAlike_24 : decode mX12_areLastAlike.2.1 24 = .ok (.getfield 37, 3) := by decide +kernel
theorem dX12_areLastAlike_27 : decode mX12_areLastAlike.2.1 27 = .ok (.sipush 3646, 3) := by decide +kernel
theorem dX12_areLastAlike_30 : decode mX12_areLastAlike.2.1 30 = .ok (.iload_n 1, 1) := by decide +kernel
theorem dX12_areLastAlike_31 : decode mX12_areLastAlike.2.1 31 = .ok (.iadd, 1) := by decide +kernel
theorem dX12_areLastAlike_32 : decode mX12_areLastAlike.2.1 32 = .ok (.iaload, 1) := by decide +kernel
theorem dX12_areLastAlike_33 : decode mX12_areLastAlike.2.1 33 = .ok (.if_icmp .eq 5, 3) := by decide +kernel
theorem dX12_areLastAlike_36 : decode mX12_areLastAlike.2.1 36 = .ok (.iconst 0, 1) := by decide +kernel
theorem dX12_areLastAlike_37 : decode mX12_areLastAlike.2.1 37 = .ok (.ireturn, 1) := by decide +kernel
theorem dX12_areLastAlike_38 : decode mX12_areLastAlike.2.1 38 = .ok (.iinc 1 1, 3) := by decide +kernel
theorem dX12_areLastAlike_41 : decode mX12_areLastAlike.2.1 41 = .ok (.goto (-39), 3) := by decide +kernel
theorem dX12_areLastAlike_44 : decode mX12_areLastAlike.2.1 44 = .ok (.iconst 1, 1) := by decide +kernel
theorem dX12_areLastAlike_45 : decode mX12_areLastAlike.2.1 45 = .ok (.ireturn, 1) := by decide +kernel
theorem dX12_asks_0 : decode mX12_asks.2.1 0 = .ok (.aload_n 0, 1) := by decide +kernel
theorem dX12_asks_1 : decode mX12_asks.2.1 1 = .ok (.iconst 0, 1) := by decide +kernel
theorem dX12_asks_2 : decode mX12_asks.2.1 2 = .ok (.aload_n 0, 1) := by decide +kernel
theorem dX12_asks_3 : decode mX12_asks.2.1 3 = .ok (.sipush 276, 3) := by decide +kernel
theorem dX12_asks_6 : decode mX12_asks.2.1 6 = .ok (.iload_n 1, 1) := by decide +kernel
theorem dX12_asks_7 : decode mX12_asks.2.1 7 = .ok (.iload_n 2, 1) := by decide +kernel
theorem dX12_asks_8 : decode mX12_asks.2.1 8 = .ok (.iload_n 3, 1) := by decide +kernel
theorem dX12_asks_9 : decode mX12_asks.2.1 9 = .ok (.invokevirtual 161, 3) := by decide +kernel
theorem dX12_asks_12 : decode mX12_asks.2.1 12 = .ok (.iload_n 1, 1) := by decide +kernel
theorem dX12_asks_13 : decode mX12_asks.2.1 13 = .ok (.iload_n 2, 1) := by decide +kernel
theorem dX12_asks_14 : decode mX12_asks.2.1 14 = .ok (.iload_n 3, 1) := by decide +kernel
theorem dX12_asks_15 : decode mX12_asks.2.1 15 = .ok (.invokevirtual 165, 3) := by decide +kernel
theorem dX12_asks_18 : decode mX12_asks.2.1 18 = .ok (.aload_n 0, 1) := by decide +kernel
theorem dX12_asks_19 : decode mX12_asks.2.1 19 = .ok (.iload_n 1, 1) := by decide +kernel
theorem dX12_asks_20 : decode mX12_asks.2.1 20 = .ok (.iload_n 2, 1) := by decide +kernel
theorem dX12_asks_21 : decode mX12_asks.2.1 21 = .ok (.iload_n 3, 1) := by decide +kernel
theorem dX12_asks_22 : decode mX12_asks.2.1 22 = .ok (.invokevirtual 169, 3) := by decide +kernel
theorem dX12_asks_25 : decode mX12_asks.2.1 25 = .ok (.ireturn, 1) := by decide +kernel
theorem dX12_asksEight_0 : decode mX12_asksEight.2.1 0 = .ok (.aload_n 0, 1) := by decide +kernel
theorem dX12_asksEight_1 : decode mX12_asksEight.2.1 1 = .ok (.sipush 276, 3) := by decide +kernel
theorem dX12_asksEight_4 : decode mX12_asksEight.2.1 4 = .ok (.iload_n 1, 1) := by decide +kernel
theorem dX12_asksEight_5 : decode mX12_asksEight.2.1 5 = .ok (.iload_n 2, 1) := by decide +kernel
theorem dX12_asksEight_6 : decode mX12_asksEight.2.1 6 = .ok (.invokevirtual 207, 3) := by decide +kernel
theorem dX12_asksEight_9 : decode mX12_asksEight.2.1 9 = .ok (.istore_n 3, 1) := by decide +kernel
theorem dX12_asksEight_10 : decode mX12_asksEight.2.1 10 = .ok (.aload_n 0, 1) := by decide +kernel
theorem dX12_asksEight_11 : decode mX12_asksEight.2.1 11 = .ok (.iconst 1, 1) := by decide +kernel
theorem dX12_asksEight_12 : decode mX12_asksEight.2.1 12 = .ok (.iload_n 3, 1) := by decide +kernel
theorem dX12_asksEight_13 : decode mX12_asksEight.2.1 13 = .ok (.iconst 0, 1) := by decide +kernel
theorem dX12_asksEight_14 : decode mX12_asksEight.2.1 14 = .ok (.iload_n 1, 1) := by decide +kernel
theorem dX12_asksEight_15 : decode mX12_asksEight.2.1 15 = .ok (.iload_n 2, 1) := by decide +kernel
theorem dX12_asksEight_16 : decode mX12_asksEight.2.1 16 = .ok (.invokevirtual 165, 3) := by decide +kernel
theorem dX12_asksEight_19 : decode mX12_asksEight.2.1 19 = .ok (.iload_n 3, 1) := by decide +kernel
theorem dX12_asksEight_20 : decode mX12_asksEight.2.1 20 = .ok (.aload_n 0, 1) := by decide +kernel
theorem dX12_asksEight_21 : decode mX12_asksEight.2.1 21 = .ok (.sipush 532, 3) := by decide +kernel
theorem dX12_asksEight_24 : decode mX12_asksEight.2.1 24 = .ok (.iload_n 1, 1) := by decide +kernel
theorem dX12_asksEight_25 : decode mX12_asksEight.2.1 25 = .ok (.iload_n 2, 1) := by decide +kernel
theorem dX12_asksEight_26 : decode mX12_asksEight.2.1 26 = .ok (.invokevirtual 207, 3) := by decide +kernel
theorem dX12_asksEight_29 : decode mX12_asksEight.2.1 29 = .ok (.if_icmp .eq 7, 3) := by decide +kernel
theorem dX12_asksEight_32 : decode mX12_asksEight.2.1 32 = .ok (.iconst 1, 1) := by decide +kernel
theorem dX12_asksEight_33 : decode mX12_asksEight.2.1 33 = .ok (.goto 4, 3) := by decide +kernel
theorem dX12_asksEight_36 : decode mX12_asksEight.2.1 36 = .ok (.iconst 0, 1) := by decide +kernel
theorem dX12_asksEight_37 : decode mX12_asksEight.2.1 37 = .ok (.ireturn, 1) := by decide +kernel
theorem dX12_back_0 : decode mX12_back.2.1 0 = .ok (.iload_n 1, 1) := by decide +kernel
theorem dX12_back_1 : decode mX12_back.2.1 1 = .ok (.i2l, 1) := by decide +kernel
theorem dX12_back_2 : decode mX12_back.2.1 2 = .ok (.lconst 0, 1) := by decide +kernel
theorem dX12_back_3 : decode mX12_back.2.1 3 = .ok (.lconst 1, 1) := by decide +kernel
theorem dX12_back_4 : decode mX12_back.2.1 4 = .ok (.invokestatic 76, 3) := by decide +kernel
theorem dX12_back_7 : decode mX12_back.2.1 7 = .ok (.ifCond .eq 12, 3) := by decide +kernel
theorem dX12_back_10 : decode mX12_back.2.1 10 = .ok (.aload_n 0, 1) := by decide +kernel
theorem dX12_back_11 : decode mX12_back.2.1 11 = .ok (.getfield 51, 3) := by decide +kernel
theorem dX12_back_14 : decode mX12_back.2.1 14 = .ok (.iload_n 1, 1) := by decide +kernel
theorem dX12_back_15 : decode mX12_back.2.1 15 = .ok (.baload, 1) := by decide +kernel
theorem dX12_back_16 : decode mX12_back.2.1 16 = .ok (.ifCond .ne 5, 3) := by decide +kernel
theorem dX12_back_19 : decode mX12_back.2.1 19 = .ok (.iconst (-1), 1) := by decide +kernel
theorem dX12_back_20 : decode mX12_back.2.1 20 = .ok (.ireturn, 1) := by decide +kernel
theorem dX12_back_21 : decode mX12_back.2.1 21 = .ok (.aload_n 0, 1) := by decide +kernel
theorem dX12_back_22 : decode mX12_back.2.1 22 = .ok (.getfield 48, 3) := by decide +kernel
theorem dX12_back_25 : decode mX12_back.2.1 25 = .ok (.sipush 17510, 3) := by decide +kernel
theorem dX12_back_28 : decode mX12_back.2.1 28 = .ok (.iload_n 1, 1) := by decide +kernel
theorem dX12_back_29 : decode mX12_back.2.1 29 = .ok (.imul, 1) := by decide +kernel
theorem dX12_back_30 : decode mX12_back.2.1 30 = .ok (.aload_n 0, 1) := by decide +kernel
theorem dX12_back_31 : decode mX12_back.2.1 31 = .ok (.getfield 37, 3) := by decide +kernel
theorem dX12_back_34 : decode mX12_back.2.1 34 = .ok (.iconst 0, 1) := by decide +kernel
theorem dX12_back_35 : decode mX12_back.2.1 35 = .ok (.invokestatic 123, 3) := by decide +kernel
theorem dX12_back_38 : decode mX12_back.2.1 38 = .ok (.aload_n 0, 1) := by decide +kernel
theorem dX12_back_39 : decode mX12_back.2.1 39 = .ok (.iconst 0, 1) := by decide +kernel
theorem dX12_back_40 : decode mX12_back.2.1 40 = .ok (.putfield 118, 3) := by decide +kernel
theorem dX12_back_43 : decode mX12_back.2.1 43 = .ok (.aload_n 0, 1) := by decide +kernel
theorem dX12_back_44 : decode mX12_back.2.1 44 = .ok (.getfield 37, 3) := by decide +kernel
theorem dX12_back_47 : decode mX12_back.2.1 47 = .ok (.iconst 0, 1) := by decide +kernel
theorem dX12_back_48 : decode mX12_back.2.1 48 = .ok (.iaload, 1) := by decide +kernel
theorem dX12_back_49 : decode mX12_back.2.1 49 = .ok (.ireturn, 1) := by decide +kernel
theorem dX12_basesNone_0 : decode mX12_basesNone.2.1 0 = .ok (.iconst 0, 1) := by decide +kernel
theorem dX12_basesNone_1 : decode mX12_basesNone.2.1 1 = .ok (.istore_n 1, 1) := by decide +kernel
theorem dX12_basesNone_2 : decode mX12_basesNone.2.1 2 = .ok (.iload_n 1, 1) := by decide +kernel
theorem dX12_basesNone_3 : decode mX12_basesNone.2.1 3 = .ok (.sipush 256, 3) := by decide +kernel
theorem dX12_basesNone_6 : decode mX12_basesNone.2.1 6 = .ok (.if_icmp .ge 16, 3) := by decide +kernel
theorem dX12_basesNone_9 : decode mX12_basesNone.2.1 9 = .ok (.aload_n 0, 1) := by decide +kernel
theorem dX12_basesNone_10 : decode mX12_basesNone.2.1 10 = .ok (.getfield 64, 3) := by decide +kernel
theorem dX12_basesNone_13 : decode mX12_basesNone.2.1 13 = .ok (.iload_n 1, 1) := by decide +kernel
theorem dX12_basesNone_14 : decode mX12_basesNone.2.1 14 = .ok (.iconst 0, 1) := by decide +kernel
theorem dX12_basesNone_15 : decode mX12_basesNone.2.1 15 = .ok (.bastore, 1) := by decide +kernel
theorem dX12_basesNone_16 : decode mX12_basesNone.2.1 16 = .ok (.iinc 1 1, 3) := by decide +kernel
theorem dX12_basesNone_19 : decode mX12_basesNone.2.1 19 = .ok (.goto (-17), 3) := by decide +kernel
theorem dX12_basesNone_22 : decode mX12_basesNone.2.1 22 = .ok (.aload_n 0, 1) := by decide +kernel
theorem dX12_basesNone_23 : decode mX12_basesNone.2.1 23 = .ok (.iconst 0, 1) := by decide +kernel
theorem dX12_basesNone_24 : decode mX12_basesNone.2.1 24 = .ok (.putfield 275, 3) := by decide +kernel
theorem dX12_basesNone_27 : decode mX12_basesNone.2.1 27 = .ok (.return_, 1) := by decide +kernel
theorem dX12_begin_0 : decode mX12_begin.2.1 0 = .ok (.aload_n 0, 1) := by decide +kernel
theorem dX12_begin_1 : decode mX12_begin.2.1 1 = .ok (.invokevirtual 149, 3) := by decide +kernel
theorem dX12_begin_4 : decode mX12_begin.2.1 4 = .ok (.aload_n 0, 1) := by decide +kernel
theorem dX12_begin_5 : decode mX12_begin.2.1 5 = .ok (.aload_n 0, 1) := by decide +kernel
theorem dX12_begin_6 : decode mX12_begin.2.1 6 = .ok (.getfield 27, 3) := by decide +kernel
theorem dX12_begin_9 : decode mX12_begin.2.1 9 = .ok (.iconst 1, 1) := by decide +kernel
theorem dX12_begin_10 : decode mX12_begin.2.1 10 = .ok (.iaload, 1) := by decide +kernel
theorem dX12_begin_11 : decode mX12_begin.2.1 11 = .ok (.invokevirtual 152, 3) := by decide +kernel
theorem dX12_begin_14 : decode mX12_begin.2.1 14 = .ok (.ireturn, 1) := by decide +kernel
theorem dX12_begins_0 : decode mX12_begins.2.1 0 = .ok (.iconst 0, 1) := by decide +kernel
theorem dX12_begins_1 : decode mX12_begins.2.1 1 = .ok (.istore_n 1, 1) := by decide +kernel
theorem dX12_begins_2 : decode mX12_begins.2.1 2 = .ok (.iload_n 1, 1) := by decide +kernel
theorem dX12_begins_3 : decode mX12_begins.2.1 3 = .ok (.sipush 3902, 3) := by decide +kernel
theorem dX12_begins_6 : decode mX12_begins.2.1 6 = .ok (.if_icmp .ge 16, 3) := by decide +kernel
theorem dX12_begins_9 : decode mX12_begins.2.1 9 = .ok (.aload_n 0, 1) := by decide +kernel
theorem dX12_begins_10 : decode mX12_begins.2.1 10 = .ok (.getfield 37, 3) := by decide +kernel
theorem dX12_begins_13 : decode mX12_begins.2.1 13 = .ok (.iload_n 1, 1) := by decide +kernel
theorem dX12_begins_14 : decode mX12_begins.2.1 14 = .ok (.iconst 0, 1) := by decide +kernel
theorem dX12_begins_15 : decode mX12_begins.2.1 15 = .ok (.iastore, 1) := by decide +kernel
theorem dX12_begins_16 : decode mX12_begins.2.1 16 = .ok (.iinc 1 1, 3) := by decide +kernel
theorem dX12_begins_19 : decode mX12_begins.2.1 19 = .ok (.goto (-17), 3) := by decide +kernel
theorem dX12_begins_22 : decode mX12_begins.2.1 22 = .ok (.aload_n 0, 1) := by decide +kernel
theorem dX12_begins_23 : decode mX12_begins.2.1 23 = .ok (.getfield 37, 3) := by decide +kernel
theorem dX12_begins_26 : decode mX12_begins.2.1 26 = .ok (.iconst 5, 1) := by decide +kernel
theorem dX12_begins_27 : decode mX12_begins.2.1 27 = .ok (.iconst (-1), 1) := by decide +kernel
theorem dX12_begins_28 : decode mX12_begins.2.1 28 = .ok (.iastore, 1) := by decide +kernel
theorem dX12_begins_29 : decode mX12_begins.2.1 29 = .ok (.aload_n 0, 1) := by decide +kernel
theorem dX12_begins_30 : decode mX12_begins.2.1 30 = .ok (.getfield 37, 3) := by decide +kernel
theorem dX12_begins_33 : decode mX12_begins.2.1 33 = .ok (.bipush 10, 2) := by decide +kernel
theorem dX12_begins_35 : decode mX12_begins.2.1 35 = .ok (.iconst (-1), 1) := by decide +kernel
theorem dX12_begins_36 : decode mX12_begins.2.1 36 = .ok (.iastore, 1) := by decide +kernel
theorem dX12_begins_37 : decode mX12_begins.2.1 37 = .ok (.aload_n 0, 1) := by decide +kernel
theorem dX12_begins_38 : decode mX12_begins.2.1 38 = .ok (.getfield 37, 3) := by decide +kernel
theorem dX12_begins_41 : decode mX12_begins.2.1 41 = .ok (.bipush 11, 2) := by decide +kernel
theorem dX12_begins_43 : decode mX12_begins.2.1 43 = .ok (.iconst (-1), 1) := by decide +kernel
theorem dX12_begins_44 : decode mX12_begins.2.1 44 = .ok (.iastore, 1) := by decide +kernel
theorem dX12_begins_45 : decode mX12_begins.2.1 45 = .ok (.return_, 1) := by decide +kernel
theorem dX12_beginsBy_0 : decode mX12_beginsBy.2.1 0 = .ok (.aload_n 0, 1) := by decide +kernel
theorem dX12_beginsBy_1 : decode mX12_beginsBy.2.1 1 = .ok (.invokevirtual 70, 3) := by decide +kernel
theorem dX12_beginsBy_4 : decode mX12_beginsBy.2.1 4 = .ok (.aload_n 0, 1) := by decide +kernel
theorem dX12_beginsBy_5 : decode mX12_beginsBy.2.1 5 = .ok (.getfield 37, 3) := by decide +kernel
theorem dX12_beginsBy_8 : decode mX12_beginsBy.2.1 8 = .ok (.bipush 8, 2) := by decide +kernel
theorem dX12_beginsBy_10 : decode mX12_beginsBy.2.1 10 = .ok (.iload_n 1, 1) := by decide +kernel
theorem dX12_beginsBy_11 : decode mX12_beginsBy.2.1 11 = .ok (.iastore, 1) := by decide +kernel
theorem dX12_beginsBy_12 : decode mX12_beginsBy.2.1 12 = .ok (.aload_n 0, 1) := by decide +kernel
theorem dX12_beginsBy_13 : decode mX12_beginsBy.2.1 13 = .ok (.getfield 37, 3) := by decide +kernel
theorem dX12_beginsBy_16 : decode mX12_beginsBy.2.1 16 = .ok (.iconst 0, 1) := by decide +kernel
theorem dX12_beginsBy_17 : decode mX12_beginsBy.2.1 17 = .ok (.iconst 1, 1) := by decide +kernel
theorem dX12_beginsBy_18 : decode mX12_beginsBy.2.1 18 = .ok (.iastore, 1) := by decide +kernel
theorem dX12_beginsBy_19 : decode mX12_beginsBy.2.1 19 = .ok (.iconst 0, 1) := by decide +kernel
theorem dX12_beginsBy_20 : decode mX12_beginsBy.2.1 20 = .ok (.istore_n 2, 1) := by decide +kernel
theorem dX12_beginsBy_21 : decode mX12_beginsBy.2.1 21 = .ok (.iload_n 2, 1) := by decide +kernel
theorem dX12_beginsBy_22 : decode mX12_beginsBy.2.1 22 = .ok (.aload_n 0, 1) := by decide +kernel
theorem dX12_beginsBy_23 : decode mX12_beginsBy.2.1 23 = .ok (.getfield 27, 3) := by decide +kernel
theorem dX12_beginsBy_26 : decode mX12_beginsBy.2.1 26 = .ok (.iconst 0, 1) := by decide +kernel
theorem dX12_beginsBy_27 : decode mX12_beginsBy.2.1 27 = .ok (.iaload, 1) := by decide +kernel
theorem dX12_beginsBy_28 : decode mX12_beginsBy.2.1 28 = .ok (.if_icmp .ge 93, 3) := by decide +kernel
theorem dX12_beginsBy_31 : decode mX12_beginsBy.2.1 31 = .ok (.aload_n 0, 1) := by decide +kernel
theorem dX12_beginsBy_32 : decode mX12_beginsBy.2.1 32 = .ok (.iload_n 2, 1) := by decide +kernel
theorem dX12_beginsBy_33 : decode mX12_beginsBy.2.1 33 = .ok (.invokevirtual 142, 3) := by decide +kernel
theorem dX12_beginsBy_36 : decode mX12_beginsBy.2.1 36 = .ok (.aload_n 0, 1) := by decide +kernel
theorem dX12_beginsBy_37 : decode mX12_beginsBy.2.1 37 = .ok (.iload_n 2, 1) := by decide +kernel
theorem dX12_beginsBy_38 : decode mX12_beginsBy.2.1 38 = .ok (.invokevirtual 146, 3) := by decide +kernel
theorem dX12_beginsBy_41 : decode mX12_beginsBy.2.1 41 = .ok (.ifCond .ne 6, 3) := by decide +kernel
theorem dX12_beginsBy_44 : decode mX12_beginsBy.2.1 44 = .ok (.goto 71, 3) := by decide +kernel
theorem dX12_beginsBy_47 : decode mX12_beginsBy.2.1 47 = .ok (.aload_n 0, 1) := by decide +kernel
theorem dX12_beginsBy_48 : decode mX12_beginsBy.2.1 48 = .ok (.getfield 37, 3) := by decide +kernel
theorem dX12_beginsBy_51 : decode mX12_beginsBy.2.1 51 = .ok (.sipush 276, 3) := by decide +kernel
theorem dX12_beginsBy_54 : decode mX12_beginsBy.2.1 54 = .ok (.aload_n 0, 1) := by decide +kernel
theorem dX12_beginsBy_55 : decode mX12_beginsBy.2.1 55 = .ok (.getfield 37, 3) := by decide +kernel
theorem dX12_beginsBy_58 : decode mX12_beginsBy.2.1 58 = .ok (.iconst 1, 1) := by decide +kernel
theorem dX12_beginsBy_59 : decode mX12_beginsBy.2.1 59 = .ok (.iaload, 1) := by decide +kernel
theorem dX12_beginsBy_60 : decode mX12_beginsBy.2.1 60 = .ok (.iadd, 1) := by decide +kernel
theorem dX12_beginsBy_61 : decode mX12_beginsBy.2.1 61 = .ok (.aload_n 0, 1) := by decide +kernel
theorem dX12_beginsBy_62 : decode mX12_beginsBy.2.1 62 = .ok (.iload_n 2, 1) := by decide +kernel
theorem dX12_beginsBy_63 : decode mX12_beginsBy.2.1 63 = .ok (.iconst 0, 1) := by decide +kernel
theorem dX12_beginsBy_64 : decode mX12_beginsBy.2.1 64 = .ok (.invokevirtual 138, 3) := by decide +kernel
theorem dX12_beginsBy_67 : decode mX12_beginsBy.2.1 67 = .ok (.iastore, 1) := by decide +kernel
theorem dX12_beginsBy_68 : decode mX12_beginsBy.2.1 68 = .ok (.aload_n 0, 1) := by decide +kernel
theorem dX12_beginsBy_69 : decode mX12_beginsBy.2.1 69 = .ok (.getfield 37, 3) := by decide +kernel
theorem dX12_beginsBy_72 : decode mX12_beginsBy.2.1 72 = .ok (.sipush 532, 3) := by decide +kernel
theorem dX12_beginsBy_75 : decode mX12_beginsBy.2.1 75 = .ok (.aload_n 0, 1) := by decide +kernel
theorem dX12_beginsBy_76 : decode mX12_beginsBy.2.1 76 = .ok (.getfield 37, 3) := by decide +kernel
theorem dX12_beginsBy_79 : decode mX12_beginsBy.2.1 79 = .ok (.iconst 1, 1) := by decide +kernel
theorem dX12_beginsBy_80 : decode mX12_beginsBy.2.1 80 = .ok (.iaload, 1) := by decide +kernel
theorem dX12_beginsBy_81 : decode mX12_beginsBy.2.1 81 = .ok (.iadd, 1) := by decide +kernel
theorem dX12_beginsBy_82 : decode mX12_beginsBy.2.1 82 = .ok (.aload_n 0, 1) := by decide +kernel
theorem dX12_beginsBy_83 : decode mX12_beginsBy.2.1 83 = .ok (.iload_n 2, 1) := by decide +kernel
theorem dX12_beginsBy_84 : decode mX12_beginsBy.2.1 84 = .ok (.iconst 3, 1) := by decide +kernel
theorem dX12_beginsBy_85 : decode mX12_beginsBy.2.1 85 = .ok (.invokevirtual 138, 3) := by decide +kernel
theorem dX12_beginsBy_88 : decode mX12_beginsBy.2.1 88 = .ok (.iastore, 1) := by decide +kernel
theorem dX12_beginsBy_89 : decode mX12_beginsBy.2.1 89 = .ok (.aload_n 0, 1) := by decide +kernel
theorem dX12_beginsBy_90 : decode mX12_beginsBy.2.1 90 = .ok (.getfield 37, 3) := by decide +kernel
theorem dX12_beginsBy_93 : decode mX12_beginsBy.2.1 93 = .ok (.sipush 788, 3) := by decide +kernel
theorem dX12_beginsBy_96 : decode mX12_beginsBy.2.1 96 = .ok (.aload_n 0, 1) := by decide +kernel
theorem dX12_beginsBy_97 : decode mX12_beginsBy.2.1 97 = .ok (.getfield 37, 3) := by decide +kernel
theorem dX12_beginsBy_100 : decode mX12_beginsBy.2.1 100 = .ok (.iconst 1, 1) := by decide +kernel
theorem dX12_beginsBy_101 : decode mX12_beginsBy.2.1 101 = .ok (.iaload, 1) := by decide +kernel
theorem dX12_beginsBy_102 : decode mX12_beginsBy.2.1 102 = .ok (.iadd, 1) := by decide +kernel
theorem dX12_beginsBy_103 : decode mX12_beginsBy.2.1 103 = .ok (.iload_n 2, 1) := by decide +kernel
theorem dX12_beginsBy_104 : decode mX12_beginsBy.2.1 104 = .ok (.iastore, 1) := by decide +kernel
theorem dX12_beginsBy_105 : decode mX12_beginsBy.2.1 105 = .ok (.aload_n 0, 1) := by decide +kernel
theorem dX12_beginsBy_106 : decode mX12_beginsBy.2.1 106 = .ok (.getfield 37, 3) := by decide +kernel
theorem dX12_beginsBy_109 : decode mX12_beginsBy.2.1 109 = .ok (.iconst 1, 1) := by decide +kernel
theorem dX12_beginsBy_110 : decode mX12_beginsBy.2.1 110 = .ok (.dup2, 1) := by decide +kernel
theorem dX12_beginsBy_111 : decode mX12_beginsBy.2.1 111 = .ok (.iaload, 1) := by decide +kernel
theorem dX12_beginsBy_112 : decode mX12_beginsBy.2.1 112 = .ok (.iconst 1, 1) := by decide +kernel
theorem dX12_beginsBy_113 : decode mX12_beginsBy.2.1 113 = .ok (.iadd, 1) := by decide +kernel
theorem dX12_beginsBy_114 : decode mX12_beginsBy.2.1 114 = .ok (.iastore, 1) := by decide +kernel
theorem dX12_beginsBy_115 : decode mX12_beginsBy.2.1 115 = .ok (.iinc 2 1, 3) := by decide +kernel
theorem dX12_beginsBy_118 : decode mX12_beginsBy.2.1 118 = .ok (.goto (-97), 3) := by decide +kernel
theorem dX12_beginsBy_121 : decode mX12_beginsBy.2.1 121 = .ok (.aload_n 0, 1) := by decide +kernel
theorem dX12_beginsBy_122 : decode mX12_beginsBy.2.1 122 = .ok (.getfield 37, 3) := by decide +kernel
theorem dX12_beginsBy_125 : decode mX12_beginsBy.2.1 125 = .ok (.iconst 1, 1) := by decide +kernel
theorem dX12_beginsBy_126 : decode mX12_beginsBy.2.1 126 = .ok (.iaload, 1) := by decide +kernel
theorem dX12_beginsBy_127 : decode mX12_beginsBy.2.1 127 = .ok (.ireturn, 1) := by decide +kernel
theorem dX12_best_0 : decode mX12_best.2.1 0 = .ok (.iload_n 1, 1) := by decide +kernel
theorem dX12_best_1 : decode mX12_best.2.1 1 = .ok (.i2l, 1) := by decide +kernel
theorem dX12_best_2 : decode mX12_best.2.1 2 = .ok (.lconst 0, 1) := by decide +kernel
theorem dX12_best_3 : decode mX12_best.2.1 3 = .ok (.lconst 1, 1) := by decide +kernel
theorem dX12_best_4 : decode mX12_best.2.1 4 = .ok (.invokestatic 76, 3) := by decide +kernel
theorem dX12_best_7 : decode mX12_best.2.1 7 = .ok (.ifCond .eq 13, 3) := by decide +kernel
theorem dX12_best_10 : decode mX12_best.2.1 10 = .ok (.aload_n 0, 1) := by decide +kernel
theorem dX12_best_11 : decode mX12_best.2.1 11 = .ok (.getfield 37, 3) := by decide +kernel
theorem dX12_best_14 : decode mX12_best.2.1 14 = .ok (.iconst 0, 1) := by decide +kernel
theorem dX12_best_15 : decode mX12_best.2.1 15 = .ok (.iaload, 1) := by decide +kernel
theorem dX12_best_16 : decode mX12_best.2.1 16 = .ok (.iconst 2, 1) := by decide +kernel
theorem dX12_best_17 : decode mX12_best.2.1 17 = .ok (.if_icmp .eq 5, 3) := by decide +kernel
theorem dX12_best_20 : decode mX12_best.2.1 20 = .ok (.iconst (-1), 1) := by decide +kernel
theorem dX12_best_21 : decode mX12_best.2.1 21 = .ok (.ireturn, 1) := by decide +kernel
theorem dX12_best_22 : decode mX12_best.2.1 22 = .ok (.aload_n 0, 1) := by decide +kernel
theorem dX12_best_23 : decode mX12_best.2.1 23 = .ok (.invokevirtual 305, 3) := by decide +kernel
theorem dX12_best_26 : decode mX12_best.2.1 26 = .ok (.bipush (-2), 2) := by decide +kernel
theorem dX12_best_28 : decode mX12_best.2.1 28 = .ok (.istore_n 2, 1) := by decide +kernel
theorem dX12_best_29 : decode mX12_best.2.1 29 = .ok (.bipush (-2), 2) := by decide +kernel
theorem dX12_best_31 : decode mX12_best.2.1 31 = .ok (.istore_n 3, 1) := by decide +kernel
theorem dX12_best_32 : decode mX12_best.2.1 32 = .ok (.iconst 2, 1) := by decide +kernel
theorem dX12_best_33 : decode mX12_best.2.1 33 = .ok (.istore 4, 2) := by decide +kernel
theorem dX12_best_35 : decode mX12_best.2.1 35 = .ok (.iload 4, 2) := by decide +kernel
theorem dX12_best_37 : decode mX12_best.2.1 37 = .ok (.bipush 64, 2) := by decide +kernel
theorem dX12_best_39 : decode mX12_best.2.1 39 = .ok (.if_icmp .gt 41, 3) := by decide +kernel
theorem dX12_best_42 : decode mX12_best.2.1 42 = .ok (.aload_n 0, 1) := by decide +kernel
theorem dX12_best_43 : decode mX12_best.2.1 43 = .ok (.iload 4, 2) := by decide +kernel
theorem dX12_best_45 : decode mX12_best.2.1 45 = .ok (.invokevirtual 311, 3) := by decide +kernel
theorem dX12_best_48 : decode mX12_best.2.1 48 = .ok (.istore 5, 2) := by decide +kernel
theorem dX12_best_50 : decode mX12_best.2.1 50 = .ok (.iload 5, 2) := by decide +kernel
theorem dX12_best_52 : decode mX12_best.2.1 52 = .ok (.ifCond .lt 22, 3) := by decide +kernel
theorem dX12_best_55 : decode mX12_best.2.1 55 = .ok (.iload_n 2, 1) := by decide +kernel
theorem dX12_best_56 : decode mX12_best.2.1 56 = .ok (.ifCond .le 12, 3) := by decide +kernel
theorem dX12_best_59 : decode mX12_best.2.1 59 = .ok (.iload 5, 2) := by decide +kernel
theorem dX12_best_61 : decode mX12_best.2.1 61 = .ok (.iload_n 3, 1) := by decide +kernel
theorem dX12_best_62 : decode mX12_best.2.1 62 = .ok (.if_icmp .lt 6, 3) := by decide +kernel
theorem dX12_best_65 : decode mX12_best.2.1 65 = .ok (.goto 9, 3) := by decide +kernel
theorem dX12_best_68 : decode mX12_best.2.1 68 = .ok (.iload 4, 2) := by decide +kernel
theorem dX12_best_70 : decode mX12_best.2.1 70 = .ok (.istore_n 2, 1) := by decide +kernel
theorem dX12_best_71 : decode mX12_best.2.1 71 = .ok (.iload 5, 2) := by decide +kernel
theorem dX12_best_73 : decode mX12_best.2.1 73 = .ok (.istore_n 3, 1) := by decide +kernel
theorem dX12_best_74 : decode mX12_best.2.1 74 = .ok (.iinc 4 1, 3) := by decide +kernel
theorem dX12_best_77 : decode mX12_best.2.1 77 = .ok (.goto (-42), 3) := by decide +kernel
theorem dX12_best_80 : decode mX12_best.2.1 80 = .ok (.iload_n 1, 1) := by decide +kernel
theorem dX12_best_81 : decode mX12_best.2.1 81 = .ok (.ifCond .ne 7, 3) := by decide +kernel
theorem dX12_best_84 : decode mX12_best.2.1 84 = .ok (.iload_n 2, 1) := by decide +kernel
theorem dX12_best_85 : decode mX12_best.2.1 85 = .ok (.goto 4, 3) := by decide +kernel
theorem dX12_best_88 : decode mX12_best.2.1 88 = .ok (.iload_n 3, 1) := by decide +kernel
theorem dX12_best_89 : decode mX12_best.2.1 89 = .ok (.ireturn, 1) := by decide +kernel
theorem dX12_block_0 : decode mX12_block.2.1 0 = .ok (.aload_n 0, 1) := by decide +kernel
theorem dX12_block_1 : decode mX12_block.2.1 1 = .ok (.iload_n 1, 1) := by decide +kernel
theorem dX12_block_2 : decode mX12_block.2.1 2 = .ok (.invokevirtual 245, 3) := by decide +kernel
theorem dX12_block_5 : decode mX12_block.2.1 5 = .ok (.ifCond .eq 39, 3) := by decide +kernel
theorem dX12_block_8 : decode mX12_block.2.1 8 = .ok (.iload_n 2, 1) := by decide +kernel
theorem dX12_block_9 : decode mX12_block.2.1 9 = .ok (.ifCond .lt 35, 3) := by decide +kernel
theorem dX12_block_12 : decode mX12_block.2.1 12 = .ok (.iload_n 3, 1) := by decide +kernel
theorem dX12_block_13 : decode mX12_block.2.1 13 = .ok (.i2l, 1) := by decide +kernel
theorem dX12_block_14 : decode mX12_block.2.1 14 = .ok (.lconst 0, 1) := by decide +kernel
theorem dX12_block_15 : decode mX12_block.2.1 15 = .ok (.ldc2_w 301, 3) := by decide +kernel
theorem dX12_block_18 : decode mX12_block.2.1 18 = .ok (.invokestatic 76, 3) := by decide +kernel
theorem dX12_block_21 : decode mX12_block.2.1 21 = .ok (.ifCond .eq 23, 3) := by decide +kernel
theorem dX12_block_24 : decode mX12_block.2.1 24 = .ok (.iload_n 2, 1) := by decide +kernel
theorem dX12_block_25 : decode mX12_block.2.1 25 = .ok (.i2l, 1) := by decide +kernel
theorem dX12_block_26 : decode mX12_block.2.1 26 = .ok (.aload_n 0, 1) := by decide +kernel
theorem dX12_block_27 : decode mX12_block.2.1 27 = .ok (.iload_n 1, 1) := by decide +kernel
theorem dX12_block_28 : decode mX12_block.2.1 28 = .ok (.invokevirtual 179, 3) := by decide +kernel
theorem dX12_block_31 : decode mX12_block.2.1 31 = .ok (.i2l, 1) := by decide +kernel
theorem dX12_block_32 : decode mX12_block.2.1 32 = .ok (.lmul, 1) := by decide +kernel
theorem dX12_block_33 : decode mX12_block.2.1 33 = .ok (.aload_n 0, 1) := by decide +kernel
theorem dX12_block_34 : decode mX12_block.2.1 34 = .ok (.getfield 37, 3) := by decide +kernel
theorem dX12_block_37 : decode mX12_block.2.1 37 = .ok (.iconst 1, 1) := by decide +kernel
theorem dX12_block_38 : decode mX12_block.2.1 38 = .ok (.iaload, 1) := by decide +kernel
theorem dX12_block_39 : decode mX12_block.2.1 39 = .ok (.i2l, 1) := by decide +kernel
theorem dX12_block_40 : decode mX12_block.2.1 40 = .ok (.lcmp, 1) := by decide +kernel
theorem dX12_block_41 : decode mX12_block.2.1 41 = .ok (.ifCond .lt 5, 3) := by decide +kernel
theorem dX12_block_44 : decode mX12_block.2.1 44 = .ok (.iconst (-1), 1) := by decide +kernel
theorem dX12_block_45 : decode mX12_block.2.1 45 = .ok (.ireturn, 1) := by decide +kernel
theorem dX12_block_46 : decode mX12_block.2.1 46 = .ok (.iload_n 2, 1) := by decide +kernel
theorem dX12_block_47 : decode mX12_block.2.1 47 = .ok (.aload_n 0, 1) := by decide +kernel
theorem dX12_block_48 : decode mX12_block.2.1 48 = .ok (.iload_n 1, 1) := by decide +kernel
theorem dX12_block_49 : decode mX12_block.2.1 49 = .ok (.invokevirtual 179, 3) := by decide +kernel
theorem dX12_block_52 : decode mX12_block.2.1 52 = .ok (.imul, 1) := by decide +kernel
theorem dX12_block_53 : decode mX12_block.2.1 53 = .ok (.istore 4, 2) := by decide +kernel
theorem dX12_block_55 : decode mX12_block.2.1 55 = .ok (.iload_n 3, 1) := by decide +kernel
theorem dX12_block_56 : decode mX12_block.2.1 56 = .ok (.ifCond .ne 6, 3) := by decide +kernel
theorem dX12_block_59 : decode mX12_block.2.1 59 = .ok (.iload 4, 2) := by decide +kernel
theorem dX12_block_61 : decode mX12_block.2.1 61 = .ok (.ireturn, 1) := by decide +kernel
theorem dX12_block_62 : decode mX12_block.2.1 62 = .ok (.iload_n 3, 1) := by decide +kernel
theorem dX12_block_63 : decode mX12_block.2.1 63 = .ok (.iconst 1, 1) := by decide +kernel
theorem dX12_block_64 : decode mX12_block.2.1 64 = .ok (.if_icmp .ne 11, 3) := by decide +kernel
theorem dX12_block_67 : decode mX12_block.2.1 67 = .ok (.aload_n 0, 1) := by decide +kernel
theorem dX12_block_68 : decode mX12_block.2.1 68 = .ok (.iload_n 1, 1) := by decide +kernel
theorem dX12_block_69 : decode mX12_block.2.1 69 = .ok (.iload 4, 2) := by decide +kernel
theorem dX12_block_71 : decode mX12_block.2.1 71 = .ok (.invokevirtual 182, 3) := by decide +kernel
theorem dX12_block_74 : decode mX12_block.2.1 74 = .ok (.ireturn, 1) := by decide +kernel
theorem dX12_block_75 : decode mX12_block.2.1 75 = .ok (.iconst 0, 1) := by decide +kernel
theorem dX12_block_76 : decode mX12_block.2.1 76 = .ok (.istore 5, 2) := by decide +kernel
theorem dX12_block_78 : decode mX12_block.2.1 78 = .ok (.iload 4, 2) := by decide +kernel
theorem dX12_block_80 : decode mX12_block.2.1 80 = .ok (.istore 6, 2) := by decide +kernel
theorem dX12_block_82 : decode mX12_block.2.1 82 = .ok (.iload 6, 2) := by decide +kernel
theorem dX12_block_84 : decode mX12_block.2.1 84 = .ok (.iload 4, 2) := by decide +kernel
theorem dX12_block_86 : decode mX12_block.2.1 86 = .ok (.aload_n 0, 1) := by decide +kernel
theorem dX12_block_87 : decode mX12_block.2.1 87 = .ok (.iload_n 1, 1) := by decide +kernel
theorem dX12_block_88 : decode mX12_block.2.1 88 = .ok (.iload 4, 2) := by decide +kernel
theorem dX12_block_90 : decode mX12_block.2.1 90 = .ok (.invokevirtual 182, 3) := by decide +kernel
theorem dX12_block_93 : decode mX12_block.2.1 93 = .ok (.iadd, 1) := by decide +kernel
theorem dX12_block_94 : decode mX12_block.2.1 94 = .ok (.if_icmp .ge 63, 3) := by decide +kernel
theorem dX12_block_97 : decode mX12_block.2.1 97 = .ok (.aload_n 0, 1) := by decide +kernel
theorem dX12_block_98 : decode mX12_block.2.1 98 = .ok (.getfield 37, 3) := by decide +kernel
theorem dX12_block_101 : decode mX12_block.2.1 101 = .ok (.sipush 1044, 3) := by decide +kernel
theorem dX12_block_104 : decode mX12_block.2.1 104 = .ok (.sipush 256, 3) := by decide +kernel
theorem dX12_block_107 : decode mX12_block.2.1 107 = .ok (.iload_n 1, 1) := by decide +kernel
theorem dX12_block_108 : decode mX12_block.2.1 108 = .ok (.imul, 1) := by decide +kernel
theorem dX12_block_109 : decode mX12_block.2.1 109 = .ok (.iadd, 1) := by decide +kernel
theorem dX12_block_110 : decode mX12_block.2.1 110 = .ok (.iload 6, 2) := by decide +kernel
theorem dX12_block_112 : decode mX12_block.2.1 112 = .ok (.iadd, 1) := by decide +kernel
theorem dX12_block_113 : decode mX12_block.2.1 113 = .ok (.iaload, 1) := by decide +kernel
theorem dX12_block_114 : decode mX12_block.2.1 114 = .ok (.istore 7, 2) := by decide +kernel
theorem dX12_block_116 : decode mX12_block.2.1 116 = .ok (.iload 5, 2) := by decide +kernel
theorem dX12_block_118 : decode mX12_block.2.1 118 = .ok (.aload_n 0, 1) := by decide +kernel
theorem dX12_block_119 : decode mX12_block.2.1 119 = .ok (.getfield 37, 3) := by decide +kernel
theorem dX12_block_122 : decode mX12_block.2.1 122 = .ok (.sipush 276, 3) := by decide +kernel
theorem dX12_block_125 : decode mX12_block.2.1 125 = .ok (.iload 7, 2) := by decide +kernel
theorem dX12_block_127 : decode mX12_block.2.1 127 = .ok (.iadd, 1) := by decide +kernel
theorem dX12_block_128 : decode mX12_block.2.1 128 = .ok (.iaload, 1) := by decide +kernel
theorem dX12_block_129 : decode mX12_block.2.1 129 = .ok (.aload_n 0, 1) := by decide +kernel
theorem dX12_block_130 : decode mX12_block.2.1 130 = .ok (.getfield 37, 3) := by decide +kernel
theorem dX12_block_133 : decode mX12_block.2.1 133 = .ok (.sipush 532, 3) := by decide +kernel
theorem dX12_block_136 : decode mX12_block.2.1 136 = .ok (.iload 7, 2) := by decide +kernel
theorem dX12_block_138 : decode mX12_block.2.1 138 = .ok (.iadd, 1) := by decide +kernel
theorem dX12_block_139 : decode mX12_block.2.1 139 = .ok (.iaload, 1) := by decide +kernel
theorem dX12_block_140 : decode mX12_block.2.1 140 = .ok (.if_icmp .ne 7, 3) := by decide +kernel
theorem dX12_block_143 : decode mX12_block.2.1 143 = .ok (.iconst 0, 1) := by decide +kernel
theorem dX12_block_144 : decode mX12_block.2.1 144 = .ok (.goto 4, 3) := by decide +kernel
theorem dX12_block_147 : decode mX12_block.2.1 147 = .ok (.iconst 1, 1) := by decide +kernel
theorem dX12_block_148 : decode mX12_block.2.1 148 = .ok (.iadd, 1) := by decide +kernel
theorem dX12_block_149 : decode mX12_block.2.1 149 = .ok (.istore 5, 2) := by decide +kernel
theorem dX12_block_151 : decode mX12_block.2.1 151 = .ok (.iinc 6 1, 3) := by decide +kernel
theorem dX12_block_154 : decode mX12_block.2.1 154 = .ok (.goto (-72), 3) := by decide +kernel
theorem dX12_block_157 : decode mX12_block.2.1 157 = .ok (.iload 5, 2) := by decide +kernel
theorem dX12_block_159 : decode mX12_block.2.1 159 = .ok (.ireturn, 1) := by decide +kernel
theorem dX12_blockOf_0 : decode mX12_blockOf.2.1 0 = .ok (.aload_n 0, 1) := by decide +kernel
theorem dX12_blockOf_1 : decode mX12_blockOf.2.1 1 = .ok (.getfield 54, 3) := by decide +kernel
theorem dX12_blockOf_4 : decode mX12_blockOf.2.1 4 = .ok (.ifCond .ge 12, 3) := by decide +kernel
theorem dX12_blockOf_7 : decode mX12_blockOf.2.1 7 = .ok (.aload_n 0, 1) := by decide +kernel
theorem dX12_blockOf_8 : decode mX12_blockOf.2.1 8 = .ok (.getfield 27, 3) := by decide +kernel
theorem dX12_blockOf_11 : decode mX12_blockOf.2.1 11 = .ok (.iconst 5, 1) := by decide +kernel
theorem dX12_blockOf_12 : decode mX12_blockOf.2.1 12 = .ok (.iaload, 1) := by decide +kernel
theorem dX12_blockOf_13 : decode mX12_blockOf.2.1 13 = .ok (.goto 7, 3) := by decide +kernel
theorem dX12_blockOf_16 : decode mX12_blockOf.2.1 16 = .ok (.aload_n 0, 1) := by decide +kernel
theorem dX12_blockOf_17 : decode mX12_blockOf.2.1 17 = .ok (.getfield 54, 3) := by decide +kernel
theorem dX12_blockOf_20 : decode mX12_blockOf.2.1 20 = .ok (.iload_n 1, 1) := by decide +kernel
theorem dX12_blockOf_21 : decode mX12_blockOf.2.1 21 = .ok (.ishl, 1) := by decide +kernel
theorem dX12_blockOf_22 : decode mX12_blockOf.2.1 22 = .ok (.ireturn, 1) := by decide +kernel
theorem dX12_byteAt_0 : decode mX12_byteAt.2.1 0 = .ok (.iload_n 1, 1) := by decide +kernel
theorem dX12_byteAt_1 : decode mX12_byteAt.2.1 1 = .ok (.aload_n 0, 1) := by decide +kernel
theorem dX12_byteAt_2 : decode mX12_byteAt.2.1 2 = .ok (.getfield 73, 3) := by decide +kernel
theorem dX12_byteAt_5 : decode mX12_byteAt.2.1 5 = .ok (.if_icmp .ge 16, 3) := by decide +kernel
theorem dX12_byteAt_8 : decode mX12_byteAt.2.1 8 = .ok (.aload_n 0, 1) := by decide +kernel
theorem dX12_byteAt_9 : decode mX12_byteAt.2.1 9 = .ok (.getfield 7, 3) := by decide +kernel
theorem dX12_byteAt_12 : decode mX12_byteAt.2.1 12 = .ok (.iload_n 1, 1) := by decide +kernel
theorem dX12_byteAt_13 : decode mX12_byteAt.2.1 13 = .ok (.baload, 1) := by decide +kernel
theorem dX12_byteAt_14 : decode mX12_byteAt.2.1 14 = .ok (.sipush 255, 3) := by decide +kernel
theorem dX12_byteAt_17 : decode mX12_byteAt.2.1 17 = .ok (.iand, 1) := by decide +kernel
theorem dX12_byteAt_18 : decode mX12_byteAt.2.1 18 = .ok (.goto 4, 3) := by decide +kernel
theorem dX12_byteAt_21 : decode mX12_byteAt.2.1 21 = .ok (.iconst (-1), 1) := by decide +kernel
theorem dX12_byteAt_22 : decode mX12_byteAt.2.1 22 = .ok (.ireturn, 1) := by decide +kernel
theorem dX12_byteOf_0 : decode mX12_byteOf.2.1 0 = .ok (.iconst 0, 1) := by decide +kernel
theorem dX12_byteOf_1 : decode mX12_byteOf.2.1 1 = .ok (.istore_n 2, 1) := by decide +kernel
theorem dX12_byteOf_2 : decode mX12_byteOf.2.1 2 = .ok (.iconst 0, 1) := by decide +kernel
theorem dX12_byteOf_3 : decode mX12_byteOf.2.1 3 = .ok (.istore_n 3, 1) := by decide +kernel
theorem dX12_byteOf_4 : decode mX12_byteOf.2.1 4 = .ok (.iload_n 3, 1) := by decide +kernel
theorem dX12_byteOf_5 : decode mX12_byteOf.2.1 5 = .ok (.bipush 8, 2) := by decide +kernel
theorem dX12_byteOf_7 : decode mX12_byteOf.2.1 7 = .ok (.if_icmp .ge 30, 3) := by decide +kernel
theorem dX12_byteOf_10 : decode mX12_byteOf.2.1 10 = .ok (.iload_n 2, 1) := by decide +kernel
theorem dX12_byteOf_11 : decode mX12_byteOf.2.1 11 = .ok (.iconst 1, 1) := by decide +kernel
theorem dX12_byteOf_12 : decode mX12_byteOf.2.1 12 = .ok (.ishl, 1) := by decide +kernel
theorem dX12_byteOf_13 : decode mX12_byteOf.2.1 13 = .ok (.aload_n 0, 1) := by decide +kernel
theorem dX12_byteOf_14 : decode mX12_byteOf.2.1 14 = .ok (.getfield 37, 3) := by decide +kernel
theorem dX12_byteOf_17 : decode mX12_byteOf.2.1 17 = .ok (.iload_n 1, 1) := by decide +kernel
theorem dX12_byteOf_18 : decode mX12_byteOf.2.1 18 = .ok (.aload_n 0, 1) := by decide +kernel
theorem dX12_byteOf_19 : decode mX12_byteOf.2.1 19 = .ok (.getfield 37, 3) := by decide +kernel
theorem dX12_byteOf_22 : decode mX12_byteOf.2.1 22 = .ok (.bipush 9, 2) := by decide +kernel
theorem dX12_byteOf_24 : decode mX12_byteOf.2.1 24 = .ok (.iaload, 1) := by decide +kernel
theorem dX12_byteOf_25 : decode mX12_byteOf.2.1 25 = .ok (.iadd, 1) := by decide +kernel
theorem dX12_byteOf_26 : decode mX12_byteOf.2.1 26 = .ok (.iload_n 3, 1) := by decide +kernel
theorem dX12_byteOf_27 : decode mX12_byteOf.2.1 27 = .ok (.iadd, 1) := by decide +kernel
theorem dX12_byteOf_28 : decode mX12_byteOf.2.1 28 = .ok (.iaload, 1) := by decide +kernel
theorem dX12_byteOf_29 : decode mX12_byteOf.2.1 29 = .ok (.ior, 1) := by decide +kernel
theorem dX12_byteOf_30 : decode mX12_byteOf.2.1 30 = .ok (.istore_n 2, 1) := by decide +kernel
theorem dX12_byteOf_31 : decode mX12_byteOf.2.1 31 = .ok (.iinc 3 1, 3) := by decide +kernel
theorem dX12_byteOf_34 : decode mX12_byteOf.2.1 34 = .ok (.goto (-30), 3) := by decide +kernel
theorem dX12_byteOf_37 : decode mX12_byteOf.2.1 37 = .ok (.iload_n 2, 1) := by decide +kernel
theorem dX12_byteOf_38 : decode mX12_byteOf.2.1 38 = .ok (.ireturn, 1) := by decide +kernel
theorem dX12_check_0 : decode mX12_check.2.1 0 = .ok (.aload_n 0, 1) := by decide +kernel
theorem dX12_check_1 : decode mX12_check.2.1 1 = .ok (.invokevirtual 201, 3) := by decide +kernel
theorem dX12_check_4 : decode mX12_check.2.1 4 = .ok (.ifCond .ne 5, 3) := by decide +kernel
theorem dX12_check_7 : decode mX12_check.2.1 7 = .ok (.iconst (-1), 1) := by decide +kernel
theorem dX12_check_8 : decode mX12_check.2.1 8 = .ok (.ireturn, 1) := by decide +kernel
theorem dX12_check_9 : decode mX12_check.2.1 9 = .ok (.aload_n 0, 1) := by decide +kernel
theorem dX12_check_10 : decode mX12_check.2.1 10 = .ok (.invokevirtual 149, 3) := by decide +kernel
theorem dX12_check_13 : decode mX12_check.2.1 13 = .ok (.aload_n 0, 1) := by decide +kernel
theorem dX12_check_14 : decode mX12_check.2.1 14 = .ok (.invokevirtual 221, 3) := by decide +kernel
theorem dX12_check_17 : decode mX12_check.2.1 17 = .ok (.ifCond .eq 7, 3) := by decide +kernel
theorem dX12_check_20 : decode mX12_check.2.1 20 = .ok (.iconst 1, 1) := by decide +kernel
theorem dX12_check_21 : decode mX12_check.2.1 21 = .ok (.goto 4, 3) := by decide +kernel
theorem dX12_check_24 : decode mX12_check.2.1 24 = .ok (.iconst 0, 1) := by decide +kernel
theorem dX12_check_25 : decode mX12_check.2.1 25 = .ok (.ireturn, 1) := by decide +kernel
theorem dX12_checks_0 : decode mX12_checks.2.1 0 = .ok (.aload_n 0, 1) := by decide +kernel
theorem dX12_checks_1 : decode mX12_checks.2.1 1 = .ok (.sipush 2580, 3) := by decide +kernel
theorem dX12_checks_4 : decode mX12_checks.2.1 4 = .ok (.aload_n 0, 1) := by decide +kernel
theorem dX12_checks_5 : decode mX12_checks.2.1 5 = .ok (.getfield 37, 3) := by decide +kernel
theorem dX12_checks_8 : decode mX12_checks.2.1 8 = .ok (.iconst 1, 1) := by decide +kernel
theorem dX12_checks_9 : decode mX12_checks.2.1 9 = .ok (.iaload, 1) := by decide +kernel
theorem dX12_checks_10 : decode mX12_checks.2.1 10 = .ok (.aload_n 0, 1) := by decide +kernel
theorem dX12_checks_11 : decode mX12_checks.2.1 11 = .ok (.getfield 27, 3) := by decide +kernel
theorem dX12_checks_14 : decode mX12_checks.2.1 14 = .ok (.bipush 7, 2) := by decide +kernel
theorem dX12_checks_16 : decode mX12_checks.2.1 16 = .ok (.iaload, 1) := by decide +kernel
theorem dX12_checks_17 : decode mX12_checks.2.1 17 = .ok (.iadd, 1) := by decide +kernel
theorem dX12_checks_18 : decode mX12_checks.2.1 18 = .ok (.iconst 1, 1) := by decide +kernel
theorem dX12_checks_19 : decode mX12_checks.2.1 19 = .ok (.isub, 1) := by decide +kernel
theorem dX12_checks_20 : decode mX12_checks.2.1 20 = .ok (.invokevirtual 214, 3) := by decide +kernel
theorem dX12_checks_23 : decode mX12_checks.2.1 23 = .ok (.iconst 1, 1) := by decide +kernel
theorem dX12_checks_24 : decode mX12_checks.2.1 24 = .ok (.istore_n 1, 1) := by decide +kernel
theorem dX12_checks_25 : decode mX12_checks.2.1 25 = .ok (.iconst 0, 1) := by decide +kernel
theorem dX12_checks_26 : decode mX12_checks.2.1 26 = .ok (.istore_n 2, 1) := by decide +kernel
theorem dX12_checks_27 : decode mX12_checks.2.1 27 = .ok (.iload_n 2, 1) := by decide +kernel
theorem dX12_checks_28 : decode mX12_checks.2.1 28 = .ok (.aload_n 0, 1) := by decide +kernel
theorem dX12_checks_29 : decode mX12_checks.2.1 29 = .ok (.getfield 27, 3) := by decide +kernel
theorem dX12_checks_32 : decode mX12_checks.2.1 32 = .ok (.bipush 7, 2) := by decide +kernel
theorem dX12_checks_34 : decode mX12_checks.2.1 34 = .ok (.iaload, 1) := by decide +kernel
theorem dX12_checks_35 : decode mX12_checks.2.1 35 = .ok (.if_icmp .ge 55, 3) := by decide +kernel
theorem dX12_checks_38 : decode mX12_checks.2.1 38 = .ok (.aload_n 0, 1) := by decide +kernel
theorem dX12_checks_39 : decode mX12_checks.2.1 39 = .ok (.sipush 276, 3) := by decide +kernel
theorem dX12_checks_42 : decode mX12_checks.2.1 42 = .ok (.sipush 2580, 3) := by decide +kernel
theorem dX12_checks_45 : decode mX12_checks.2.1 45 = .ok (.iload_n 2, 1) := by decide +kernel
theorem dX12_checks_46 : decode mX12_checks.2.1 46 = .ok (.invokevirtual 218, 3) := by decide +kernel
theorem dX12_checks_49 : decode mX12_checks.2.1 49 = .ok (.istore_n 3, 1) := by decide +kernel
theorem dX12_checks_50 : decode mX12_checks.2.1 50 = .ok (.aload_n 0, 1) := by decide +kernel
theorem dX12_checks_51 : decode mX12_checks.2.1 51 = .ok (.iconst 2, 1) := by decide +kernel
theorem dX12_checks_52 : decode mX12_checks.2.1 52 = .ok (.iload_n 3, 1) := by decide +kernel
theorem dX12_checks_53 : decode mX12_checks.2.1 53 = .ok (.iconst 0, 1) := by decide +kernel
theorem dX12_checks_54 : decode mX12_checks.2.1 54 = .ok (.iload_n 2, 1) := by decide +kernel
theorem dX12_checks_55 : decode mX12_checks.2.1 55 = .ok (.iconst 0, 1) := by decide +kernel
theorem dX12_checks_56 : decode mX12_checks.2.1 56 = .ok (.invokevirtual 165, 3) := by decide +kernel
theorem dX12_checks_59 : decode mX12_checks.2.1 59 = .ok (.iload_n 1, 1) := by decide +kernel
theorem dX12_checks_60 : decode mX12_checks.2.1 60 = .ok (.ifCond .eq 22, 3) := by decide +kernel
theorem dX12_checks_63 : decode mX12_checks.2.1 63 = .ok (.iload_n 3, 1) := by decide +kernel
theorem dX12_checks_64 : decode mX12_checks.2.1 64 = .ok (.aload_n 0, 1) := by decide +kernel
theorem dX12_checks_65 : decode mX12_checks.2.1 65 = .ok (.sipush 532, 3) := by decide +kernel
theorem dX12_checks_68 : decode mX12_checks.2.1 68 = .ok (.sipush 2580, 3) := by decide +kernel
theorem dX12_checks_71 : decode mX12_checks.2.1 71 = .ok (.iload_n 2, 1) := by decide +kernel
theorem dX12_checks_72 : decode mX12_checks.2.1 72 = .ok (.invokevirtual 218, 3) := by decide +kernel
theorem dX12_checks_75 : decode mX12_checks.2.1 75 = .ok (.if_icmp .ne 7, 3) := by decide +kernel
theorem dX12_checks_78 : decode mX12_checks.2.1 78 = .ok (.iconst 1, 1) := by decide +kernel
theorem dX12_checks_79 : decode mX12_checks.2.1 79 = .ok (.goto 4, 3) := by decide +kernel
theorem dX12_checks_82 : decode mX12_checks.2.1 82 = .ok (.iconst 0, 1) := by decide +kernel
theorem dX12_checks_83 : decode mX12_checks.2.1 83 = .ok (.istore_n 1, 1) := by decide +kernel
theorem dX12_checks_84 : decode mX12_checks.2.1 84 = .ok (.iinc 2 1, 3) := by decide +kernel
theorem dX12_checks_87 : decode mX12_checks.2.1 87 = .ok (.goto (-60), 3) := by decide +kernel
theorem dX12_checks_90 : decode mX12_checks.2.1 90 = .ok (.aload_n 0, 1) := by decide +kernel
theorem dX12_checks_91 : decode mX12_checks.2.1 91 = .ok (.getfield 37, 3) := by decide +kernel
theorem dX12_checks_94 : decode mX12_checks.2.1 94 = .ok (.iconst 0, 1) := by decide +kernel
theorem dX12_checks_95 : decode mX12_checks.2.1 95 = .ok (.iload_n 1, 1) := by decide +kernel
theorem dX12_checks_96 : decode mX12_checks.2.1 96 = .ok (.ifCond .eq 7, 3) := by decide +kernel
theorem dX12_checks_99 : decode mX12_checks.2.1 99 = .ok (.iconst 4, 1) := by decide +kernel
theorem dX12_checks_100 : decode mX12_checks.2.1 100 = .ok (.goto 5, 3) := by decide +kernel
theorem dX12_checks_103 : decode mX12_checks.2.1 103 = .ok (.bipush 6, 2) := by decide +kernel
theorem dX12_checks_105 : decode mX12_checks.2.1 105 = .ok (.iastore, 1) := by decide +kernel
theorem dX12_checks_106 : decode mX12_checks.2.1 106 = .ok (.iload_n 1, 1) := by decide +kernel
theorem dX12_checks_107 : decode mX12_checks.2.1 107 = .ok (.ireturn, 1) := by decide +kernel
theorem dX12_copies_0 : decode mX12_copies.2.1 0 = .ok (.sipush 3902, 3) := by decide +kernel
theorem dX12_copies_3 : decode mX12_copies.2.1 3 = .ok (.aload_n 0, 1) := by decide +kernel
theorem dX12_copies_4 : decode mX12_copies.2.1 4 = .ok (.iload_n 1, 1) := by decide +kernel
theorem dX12_copies_5 : decode mX12_copies.2.1 5 = .ok (.iconst 3, 1) := by decide +kernel
theorem dX12_copies_6 : decode mX12_copies.2.1 6 = .ok (.iadd, 1) := by decide +kernel
theorem dX12_copies_7 : decode mX12_copies.2.1 7 = .ok (.iaload, 1) := by decide +kernel
theorem dX12_copies_8 : decode mX12_copies.2.1 8 = .ok (.iadd, 1) := by decide +kernel
theorem dX12_copies_9 : decode mX12_copies.2.1 9 = .ok (.istore 4, 2) := by decide +kernel
theorem dX12_copies_11 : decode mX12_copies.2.1 11 = .ok (.iconst 0, 1) := by decide +kernel
theorem dX12_copies_12 : decode mX12_copies.2.1 12 = .ok (.istore 5, 2) := by decide +kernel
theorem dX12_copies_14 : decode mX12_copies.2.1 14 = .ok (.iload 5, 2) := by decide +kernel
theorem dX12_copies_16 : decode mX12_copies.2.1 16 = .ok (.iload 4, 2) := by decide +kernel
theorem dX12_copies_18 : decode mX12_copies.2.1 18 = .ok (.if_icmp .ge 21, 3) := by decide +kernel
theorem dX12_copies_21 : decode mX12_copies.2.1 21 = .ok (.aload_n 2, 1) := by decide +kernel
theorem dX12_copies_22 : decode mX12_copies.2.1 22 = .ok (.iload_n 3, 1) := by decide +kernel
theorem dX12_copies_23 : decode mX12_copies.2.1 23 = .ok (.iload 5, 2) := by decide +kernel
theorem dX12_copies_25 : decode mX12_copies.2.1 25 = .ok (.iadd, 1) := by decide +kernel
theorem dX12_copies_26 : decode mX12_copies.2.1 26 = .ok (.aload_n 0, 1) := by decide +kernel
theorem dX12_copies_27 : decode mX12_copies.2.1 27 = .ok (.iload_n 1, 1) := by decide +kernel
theorem dX12_copies_28 : decode mX12_copies.2.1 28 = .ok (.iload 5, 2) := by decide +kernel
theorem dX12_copies_30 : decode mX12_copies.2.1 30 = .ok (.iadd, 1) := by decide +kernel
theorem dX12_copies_31 : decode mX12_copies.2.1 31 = .ok (.iaload, 1) := by decide +kernel
theorem dX12_copies_32 : decode mX12_copies.2.1 32 = .ok (.iastore, 1) := by decide +kernel
theorem dX12_copies_33 : decode mX12_copies.2.1 33 = .ok (.iinc 5 1, 3) := by decide +kernel
theorem dX12_copies_36 : decode mX12_copies.2.1 36 = .ok (.goto (-22), 3) := by decide +kernel
theorem dX12_copies_39 : decode mX12_copies.2.1 39 = .ok (.return_, 1) := by decide +kernel
theorem dX12_count_0 : decode mX12_count.2.1 0 = .ok (.iload_n 1, 1) := by decide +kernel
theorem dX12_count_1 : decode mX12_count.2.1 1 = .ok (.tableswitch 198 0 16 #[83, 90, 97, 102, 109, 116, 123, 130, 138, 146, 151, 159, 164, 169, 174, 182, 190], 83) := by decide +kernel
theorem dX12_count_84 : decode mX12_count.2.1 84 = .ok (.aload_n 0, 1) := by decide +kernel
theorem dX12_count_85 : decode mX12_count.2.1 85 = .ok (.getfield 37, 3) := by decide +kernel
theorem dX12_count_88 : decode mX12_count.2.1 88 = .ok (.iconst 0, 1) := by decide +kernel
theorem dX12_count_89 : decode mX12_count.2.1 89 = .ok (.iaload, 1) := by decide +kernel
theorem dX12_count_90 : decode mX12_count.2.1 90 = .ok (.ireturn, 1) := by decide +kernel
theorem dX12_count_91 : decode mX12_count.2.1 91 = .ok (.aload_n 0, 1) := by decide +kernel
theorem dX12_count_92 : decode mX12_count.2.1 92 = .ok (.getfield 37, 3) := by decide +kernel
theorem dX12_count_95 : decode mX12_count.2.1 95 = .ok (.iconst 1, 1) := by decide +kernel
theorem dX12_count_96 : decode mX12_count.2.1 96 = .ok (.iaload, 1) := by decide +kernel
theorem dX12_count_97 : decode mX12_count.2.1 97 = .ok (.ireturn, 1) := by decide +kernel
theorem dX12_count_98 : decode mX12_count.2.1 98 = .ok (.aload_n 0, 1) := by decide +kernel
theorem dX12_count_99 : decode mX12_count.2.1 99 = .ok (.invokevirtual 237, 3) := by decide +kernel
theorem dX12_count_102 : decode mX12_count.2.1 102 = .ok (.ireturn, 1) := by decide +kernel
theorem dX12_count_103 : decode mX12_count.2.1 103 = .ok (.aload_n 0, 1) := by decide +kernel
theorem dX12_count_104 : decode mX12_count.2.1 104 = .ok (.getfield 37, 3) := by decide +kernel
theorem dX12_count_107 : decode mX12_count.2.1 107 = .ok (.iconst 2, 1) := by decide +kernel
theorem dX12_count_108 : decode mX12_count.2.1 108 = .ok (.iaload, 1) := by decide +kernel
theorem dX12_count_109 : decode mX12_count.2.1 109 = .ok (.ireturn, 1) := by decide +kernel
theorem dX12_count_110 : decode mX12_count.2.1 110 = .ok (.aload_n 0, 1) := by decide +kernel
theorem dX12_count_111 : decode mX12_count.2.1 111 = .ok (.getfield 37, 3) := by decide +kernel
theorem dX12_count_114 : decode mX12_count.2.1 114 = .ok (.iconst 3, 1) := by decide +kernel
theorem dX12_count_115 : decode mX12_count.2.1 115 = .ok (.iaload, 1) := by decide +kernel
theorem dX12_count_116 : decode mX12_count.2.1 116 = .ok (.ireturn, 1) := by decide +kernel
theorem dX12_count_117 : decode mX12_count.2.1 117 = .ok (.aload_n 0, 1) := by decide +kernel
theorem dX12_count_118 : decode mX12_count.2.1 118 = .ok (.getfield 37, 3) := by decide +kernel
theorem dX12_count_121 : decode mX12_count.2.1 121 = .ok (.iconst 4, 1) := by decide +kernel
theorem dX12_count_122 : decode mX12_count.2.1 122 = .ok (.iaload, 1) := by decide +kernel
theorem dX12_count_123 : decode mX12_count.2.1 123 = .ok (.ireturn, 1) := by decide +kernel
theorem dX12_count_124 : decode mX12_count.2.1 124 = .ok (.aload_n 0, 1) := by decide +kernel
theorem dX12_count_125 : decode mX12_count.2.1 125 = .ok (.getfield 37, 3) := by decide +kernel
theorem dX12_count_128 : decode mX12_count.2.1 128 = .ok (.iconst 5, 1) := by decide +kernel
theorem dX12_count_129 : decode mX12_count.2.1 129 = .ok (.iaload, 1) := by decide +kernel
theorem dX12_count_130 : decode mX12_count.2.1 130 = .ok (.ireturn, 1) := by decide +kernel
theorem dX12_count_131 : decode mX12_count.2.1 131 = .ok (.aload_n 0, 1) := by decide +kernel
theorem dX12_count_132 : decode mX12_count.2.1 132 = .ok (.getfield 37, 3) := by decide +kernel
theorem dX12_count_135 : decode mX12_count.2.1 135 = .ok (.bipush 6, 2) := by decide +kernel
theorem dX12_count_137 : decode mX12_count.2.1 137 = .ok (.iaload, 1) := by decide +kernel
theorem dX12_count_138 : decode mX12_count.2.1 138 = .ok (.ireturn, 1) := by decide +kernel
theorem dX12_count_139 : decode mX12_count.2.1 139 = .ok (.aload_n 0, 1) := by decide +kernel
theorem dX12_count_140 : decode mX12_count.2.1 140 = .ok (.getfield 37, 3) := by decide +kernel
theorem dX12_count_143 : decode mX12_count.2.1 143 = .ok (.bipush 7, 2) := by decide +kernel
theorem dX12_count_145 : decode mX12_count.2.1 145 = .ok (.iaload, 1) := by decide +kernel
theorem dX12_count_146 : decode mX12_count.2.1 146 = .ok (.ireturn, 1) := by decide +kernel
theorem dX12_count_147 : decode mX12_count.2.1 147 = .ok (.aload_n 0, 1) := by decide +kernel
theorem dX12_count_148 : decode mX12_count.2.1 148 = .ok (.invokevirtual 325, 3) := by decide +kernel
theorem dX12_count_151 : decode mX12_count.2.1 151 = .ok (.ireturn, 1) := by decide +kernel
theorem dX12_count_152 : decode mX12_count.2.1 152 = .ok (.aload_n 0, 1) := by decide +kernel
theorem dX12_count_153 : decode mX12_count.2.1 153 = .ok (.getfield 37, 3) := by decide +kernel
theorem dX12_count_156 : decode mX12_count.2.1 156 = .ok (.bipush 8, 2) := by decide +kernel
theorem dX12_count_158 : decode mX12_count.2.1 158 = .ok (.iaload, 1) := by decide +kernel
theorem dX12_count_159 : decode mX12_count.2.1 159 = .ok (.ireturn, 1) := by decide +kernel
theorem dX12_count_160 : decode mX12_count.2.1 160 = .ok (.aload_n 0, 1) := by decide +kernel
theorem dX12_count_161 : decode mX12_count.2.1 161 = .ok (.getfield 118, 3) := by decide +kernel
theorem dX12_count_164 : decode mX12_count.2.1 164 = .ok (.ireturn, 1) := by decide +kernel
theorem dX12_count_165 : decode mX12_count.2.1 165 = .ok (.aload_n 0, 1) := by decide +kernel
theorem dX12_count_166 : decode mX12_count.2.1 166 = .ok (.getfield 73, 3) := by decide +kernel
theorem dX12_count_169 : decode mX12_count.2.1 169 = .ok (.ireturn, 1) := by decide +kernel
theorem dX12_count_170 : decode mX12_count.2.1 170 = .ok (.aload_n 0, 1) := by decide +kernel
theorem dX12_count_171 : decode mX12_count.2.1 171 = .ok (.invokevirtual 240, 3) := by decide +kernel
theorem dX12_count_174 : decode mX12_count.2.1 174 = .ok (.ireturn, 1) := by decide +kernel
theorem dX12_count_175 : decode mX12_count.2.1 175 = .ok (.aload_n 0, 1) := by decide +kernel
theorem dX12_count_176 : decode mX12_count.2.1 176 = .ok (.getfield 37, 3) := by decide +kernel
theorem dX12_count_179 : decode mX12_count.2.1 179 = .ok (.bipush 9, 2) := by decide +kernel
theorem dX12_count_181 : decode mX12_count.2.1 181 = .ok (.iaload, 1) := by decide +kernel
theorem dX12_count_182 : decode mX12_count.2.1 182 = .ok (.ireturn, 1) := by decide +kernel
theorem dX12_count_183 : decode mX12_count.2.1 183 = .ok (.aload_n 0, 1) := by decide +kernel
theorem dX12_count_184 : decode mX12_count.2.1 184 = .ok (.getfield 37, 3) := by decide +kernel
theorem dX12_count_187 : decode mX12_count.2.1 187 = .ok (.bipush 10, 2) := by decide +kernel
theorem dX12_count_189 : decode mX12_count.2.1 189 = .ok (.iaload, 1) := by decide +kernel
theorem dX12_count_190 : decode mX12_count.2.1 190 = .ok (.ireturn, 1) := by decide +kernel
theorem dX12_count_191 : decode mX12_count.2.1 191 = .ok (.aload_n 0, 1) := by decide +kernel
theorem dX12_count_192 : decode mX12_count.2.1 192 = .ok (.getfield 37, 3) := by decide +kernel
theorem dX12_count_195 : decode mX12_count.2.1 195 = .ok (.bipush 11, 2) := by decide +kernel
theorem dX12_count_197 : decode mX12_count.2.1 197 = .ok (.iaload, 1) := by decide +kernel
theorem dX12_count_198 : decode mX12_count.2.1 198 = .ok (.ireturn, 1) := by decide +kernel
theorem dX12_count_199 : decode mX12_count.2.1 199 = .ok (.iconst (-1), 1) := by decide +kernel
theorem dX12_count_200 : decode mX12_count.2.1 200 = .ok (.ireturn, 1) := by decide +kernel
theorem dX12_draw_0 : decode mX12_draw.2.1 0 = .ok (.aload_n 0, 1) := by decide +kernel
theorem dX12_draw_1 : decode mX12_draw.2.1 1 = .ok (.getfield 37, 3) := by decide +kernel
theorem dX12_draw_4 : decode mX12_draw.2.1 4 = .ok (.bipush 8, 2) := by decide +kernel
theorem dX12_draw_6 : decode mX12_draw.2.1 6 = .ok (.iaload, 1) := by decide +kernel
theorem dX12_draw_7 : decode mX12_draw.2.1 7 = .ok (.i2l, 1) := by decide +kernel
theorem dX12_draw_8 : decode mX12_draw.2.1 8 = .ok (.ldc2_w 127, 3) := by decide +kernel
theorem dX12_draw_11 : decode mX12_draw.2.1 11 = .ok (.lmul, 1) := by decide +kernel
theorem dX12_draw_12 : decode mX12_draw.2.1 12 = .ok (.ldc2_w 129, 3) := by decide +kernel
theorem dX12_draw_15 : decode mX12_draw.2.1 15 = .ok (.ladd, 1) := by decide +kernel
theorem dX12_draw_16 : decode mX12_draw.2.1 16 = .ok (.ldc2_w 131, 3) := by decide +kernel
theorem dX12_draw_19 : decode mX12_draw.2.1 19 = .ok (.lrem, 1) := by decide +kernel
theorem dX12_draw_20 : decode mX12_draw.2.1 20 = .ok (.lstore_n 2, 1) := by decide +kernel
theorem dX12_draw_21 : decode mX12_draw.2.1 21 = .ok (.aload_n 0, 1) := by decide +kernel
theorem dX12_draw_22 : decode mX12_draw.2.1 22 = .ok (.getfield 37, 3) := by decide +kernel
theorem dX12_draw_25 : decode mX12_draw.2.1 25 = .ok (.bipush 8, 2) := by decide +kernel
theorem dX12_draw_27 : decode mX12_draw.2.1 27 = .ok (.lload_n 2, 1) := by decide +kernel
theorem dX12_draw_28 : decode mX12_draw.2.1 28 = .ok (.l2i, 1) := by decide +kernel
theorem dX12_draw_29 : decode mX12_draw.2.1 29 = .ok (.iastore, 1) := by decide +kernel
theorem dX12_draw_30 : decode mX12_draw.2.1 30 = .ok (.lload_n 2, 1) := by decide +kernel
theorem dX12_draw_31 : decode mX12_draw.2.1 31 = .ok (.ldc2_w 133, 3) := by decide +kernel
theorem dX12_draw_34 : decode mX12_draw.2.1 34 = .ok (.ldiv, 1) := by decide +kernel
theorem dX12_draw_35 : decode mX12_draw.2.1 35 = .ok (.iload_n 1, 1) := by decide +kernel
theorem dX12_draw_36 : decode mX12_draw.2.1 36 = .ok (.i2l, 1) := by decide +kernel
theorem dX12_draw_37 : decode mX12_draw.2.1 37 = .ok (.lrem, 1) := by decide +kernel
theorem dX12_draw_38 : decode mX12_draw.2.1 38 = .ok (.l2i, 1) := by decide +kernel
theorem dX12_draw_39 : decode mX12_draw.2.1 39 = .ok (.ireturn, 1) := by decide +kernel
theorem dX12_drawsRow_0 : decode mX12_drawsRow.2.1 0 = .ok (.iconst 0, 1) := by decide +kernel
theorem dX12_drawsRow_1 : decode mX12_drawsRow.2.1 1 = .ok (.istore_n 3, 1) := by decide +kernel
theorem dX12_drawsRow_2 : decode mX12_drawsRow.2.1 2 = .ok (.iload_n 3, 1) := by decide +kernel
theorem dX12_drawsRow_3 : decode mX12_drawsRow.2.1 3 = .ok (.iload_n 2, 1) := by decide +kernel
theorem dX12_drawsRow_4 : decode mX12_drawsRow.2.1 4 = .ok (.if_icmp .ge 22, 3) := by decide +kernel
theorem dX12_drawsRow_7 : decode mX12_drawsRow.2.1 7 = .ok (.aload_n 0, 1) := by decide +kernel
theorem dX12_drawsRow_8 : decode mX12_drawsRow.2.1 8 = .ok (.getfield 37, 3) := by decide +kernel
theorem dX12_drawsRow_11 : decode mX12_drawsRow.2.1 11 = .ok (.iload_n 1, 1) := by decide +kernel
theorem dX12_drawsRow_12 : decode mX12_drawsRow.2.1 12 = .ok (.iload_n 3, 1) := by decide +kernel
theorem dX12_drawsRow_13 : decode mX12_drawsRow.2.1 13 = .ok (.iadd, 1) := by decide +kernel
theorem dX12_drawsRow_14 : decode mX12_drawsRow.2.1 14 = .ok (.aload_n 0, 1) := by decide +kernel
theorem dX12_drawsRow_15 : decode mX12_drawsRow.2.1 15 = .ok (.iconst 2, 1) := by decide +kernel
theorem dX12_drawsRow_16 : decode mX12_drawsRow.2.1 16 = .ok (.invokevirtual 135, 3) := by decide +kernel
theorem dX12_drawsRow_19 : decode mX12_drawsRow.2.1 19 = .ok (.iastore, 1) := by decide +kernel
theorem dX12_drawsRow_20 : decode mX12_drawsRow.2.1 20 = .ok (.iinc 3 1, 3) := by decide +kernel
theorem dX12_drawsRow_23 : decode mX12_drawsRow.2.1 23 = .ok (.goto (-21), 3) := by decide +kernel
theorem dX12_drawsRow_26 : decode mX12_drawsRow.2.1 26 = .ok (.return_, 1) := by decide +kernel
theorem dX12_end_0 : decode mX12_end.2.1 0 = .ok (.iload_n 1, 1) := by decide +kernel
theorem dX12_end_1 : decode mX12_end.2.1 1 = .ok (.i2l, 1) := by decide +kernel
theorem dX12_end_2 : decode mX12_end.2.1 2 = .ok (.lconst 0, 1) := by decide +kernel
theorem dX12_end_3 : decode mX12_end.2.1 3 = .ok (.aload_n 0, 1) := by decide +kernel
theorem dX12_end_4 : decode mX12_end.2.1 4 = .ok (.getfield 73, 3) := by decide +kernel
theorem dX12_end_7 : decode mX12_end.2.1 7 = .ok (.i2l, 1) := by decide +kernel
theorem dX12_end_8 : decode mX12_end.2.1 8 = .ok (.invokestatic 76, 3) := by decide +kernel
theorem dX12_end_11 : decode mX12_end.2.1 11 = .ok (.ifCond .ne 5, 3) := by decide +kernel
theorem dX12_end_14 : decode mX12_end.2.1 14 = .ok (.iconst (-1), 1) := by decide +kernel
theorem dX12_end_15 : decode mX12_end.2.1 15 = .ok (.ireturn, 1) := by decide +kernel
theorem dX12_end_16 : decode mX12_end.2.1 16 = .ok (.aload_n 0, 1) := by decide +kernel
theorem dX12_end_17 : decode mX12_end.2.1 17 = .ok (.iload_n 1, 1) := by decide +kernel
theorem dX12_end_18 : decode mX12_end.2.1 18 = .ok (.putfield 73, 3) := by decide +kernel
theorem dX12_end_21 : decode mX12_end.2.1 21 = .ok (.iload_n 1, 1) := by decide +kernel
theorem dX12_end_22 : decode mX12_end.2.1 22 = .ok (.ireturn, 1) := by decide +kernel
theorem dX12_fails_0 : decode mX12_fails.2.1 0 = .ok (.aload_n 0, 1) := by decide +kernel
theorem dX12_fails_1 : decode mX12_fails.2.1 1 = .ok (.bipush 8, 2) := by decide +kernel
theorem dX12_fails_3 : decode mX12_fails.2.1 3 = .ok (.iload_n 2, 1) := by decide +kernel
theorem dX12_fails_4 : decode mX12_fails.2.1 4 = .ok (.imul, 1) := by decide +kernel
theorem dX12_fails_5 : decode mX12_fails.2.1 5 = .ok (.iload_n 1, 1) := by decide +kernel
theorem dX12_fails_6 : decode mX12_fails.2.1 6 = .ok (.iadd, 1) := by decide +kernel
theorem dX12_fails_7 : decode mX12_fails.2.1 7 = .ok (.putfield 80, 3) := by decide +kernel
theorem dX12_fails_10 : decode mX12_fails.2.1 10 = .ok (.iconst 0, 1) := by decide +kernel
theorem dX12_fails_11 : decode mX12_fails.2.1 11 = .ok (.ireturn, 1) := by decide +kernel
theorem dX12_feed_0 : decode mX12_feed.2.1 0 = .ok (.aload_n 0, 1) := by decide +kernel
theorem dX12_feed_1 : decode mX12_feed.2.1 1 = .ok (.getfield 73, 3) := by decide +kernel
theorem dX12_feed_4 : decode mX12_feed.2.1 4 = .ok (.sipush 180, 3) := by decide +kernel
theorem dX12_feed_7 : decode mX12_feed.2.1 7 = .ok (.if_icmp .le 5, 3) := by decide +kernel
theorem dX12_feed_10 : decode mX12_feed.2.1 10 = .ok (.iconst (-1), 1) := by decide +kernel
theorem dX12_feed_11 : decode mX12_feed.2.1 11 = .ok (.ireturn, 1) := by decide +kernel
theorem dX12_feed_12 : decode mX12_feed.2.1 12 = .ok (.iconst 0, 1) := by decide +kernel
theorem dX12_feed_13 : decode mX12_feed.2.1 13 = .ok (.istore 6, 2) := by decide +kernel
theorem dX12_feed_15 : decode mX12_feed.2.1 15 = .ok (.iload 6, 2) := by decide +kernel
theorem dX12_feed_17 : decode mX12_feed.2.1 17 = .ok (.bipush 20, 2) := by decide +kernel
theorem dX12_feed_19 : decode mX12_feed.2.1 19 = .ok (.if_icmp .ge 83, 3) := by decide +kernel
theorem dX12_feed_22 : decode mX12_feed.2.1 22 = .ok (.iload 6, 2) := by decide +kernel
theorem dX12_feed_24 : decode mX12_feed.2.1 24 = .ok (.iconst 4, 1) := by decide +kernel
theorem dX12_feed_25 : decode mX12_feed.2.1 25 = .ok (.if_icmp .ge 7, 3) := by decide +kernel
theorem dX12_feed_28 : decode mX12_feed.2.1 28 = .ok (.iload_n 1, 1) := by decide +kernel
theorem dX12_feed_29 : decode mX12_feed.2.1 29 = .ok (.goto 39, 3) := by decide +kernel
theorem dX12_feed_32 : decode mX12_feed.2.1 32 = .ok (.iload 6, 2) := by decide +kernel
theorem dX12_feed_34 : decode mX12_feed.2.1 34 = .ok (.bipush 8, 2) := by decide +kernel
theorem dX12_feed_36 : decode mX12_feed.2.1 36 = .ok (.if_icmp .ge 7, 3) := by decide +kernel
theorem dX12_feed_39 : decode mX12_feed.2.1 39 = .ok (.iload_n 2, 1) := by decide +kernel
theorem dX12_feed_40 : decode mX12_feed.2.1 40 = .ok (.goto 28, 3) := by decide +kernel
theorem dX12_feed_43 : decode mX12_feed.2.1 43 = .ok (.iload 6, 2) := by decide +kernel
theorem dX12_feed_45 : decode mX12_feed.2.1 45 = .ok (.bipush 12, 2) := by decide +kernel
theorem dX12_feed_47 : decode mX12_feed.2.1 47 = .ok (.if_icmp .ge 7, 3) := by decide +kernel
theorem dX12_feed_50 : decode mX12_feed.2.1 50 = .ok (.iload_n 3, 1) := by decide +kernel
theorem dX12_feed_51 : decode mX12_feed.2.1 51 = .ok (.goto 17, 3) := by decide +kernel
theorem dX12_feed_54 : decode mX12_feed.2.1 54 = .ok (.iload 6, 2) := by decide +kernel
theorem dX12_feed_56 : decode mX12_feed.2.1 56 = .ok (.bipush 16, 2) := by decide +kernel
theorem dX12_feed_58 : decode mX12_feed.2.1 58 = .ok (.if_icmp .ge 8, 3) := by decide +kernel
theorem dX12_feed_61 : decode mX12_feed.2.1 61 = .ok (.iload 4, 2) := by decide +kernel
theorem dX12_feed_63 : decode mX12_feed.2.1 63 = .ok (.goto 5, 3) := by decide +kernel
theorem dX12_feed_66 : decode mX12_feed.2.1 66 = .ok (.iload 5, 2) := by decide +kernel
theorem dX12_feed_68 : decode mX12_feed.2.1 68 = .ok (.istore 7, 2) := by decide +kernel
theorem dX12_feed_70 : decode mX12_feed.2.1 70 = .ok (.aload_n 0, 1) := by decide +kernel
theorem dX12_feed_71 : decode mX12_feed.2.1 71 = .ok (.getfield 7, 3) := by decide +kernel
theorem dX12_feed_74 : decode mX12_feed.2.1 74 = .ok (.aload_n 0, 1) := by decide +kernel
theorem dX12_feed_75 : decode mX12_feed.2.1 75 = .ok (.getfield 73, 3) := by decide +kernel
theorem dX12_feed_78 : decode mX12_feed.2.1 78 = .ok (.iload 6, 2) := by decide +kernel
theorem dX12_feed_80 : decode mX12_feed.2.1 80 = .ok (.iadd, 1) := by decide +kernel
theorem dX12_feed_81 : decode mX12_feed.2.1 81 = .ok (.iload 7, 2) := by decide +kernel
theorem dX12_feed_83 : decode mX12_feed.2.1 83 = .ok (.bipush 24, 2) := by decide +kernel
theorem dX12_feed_85 : decode mX12_feed.2.1 85 = .ok (.bipush 8, 2) := by decide +kernel
theorem dX12_feed_87 : decode mX12_feed.2.1 87 = .ok (.iload 6, 2) := by decide +kernel
theorem dX12_feed_89 : decode mX12_feed.2.1 89 = .ok (.iconst 4, 1) := by decide +kernel
theorem dX12_feed_90 : decode mX12_feed.2.1 90 = .ok (.irem, 1) := by decide +kernel
theorem dX12_feed_91 : decode mX12_feed.2.1 91 = .ok (.imul, 1) := by decide +kernel
theorem dX12_feed_92 : decode mX12_feed.2.1 92 = .ok (.isub, 1) := by decide +kernel
theorem dX12_feed_93 : decode mX12_feed.2.1 93 = .ok (.ishr, 1) := by decide +kernel
theorem dX12_feed_94 : decode mX12_feed.2.1 94 = .ok (.i2b, 1) := by decide +kernel
theorem dX12_feed_95 : decode mX12_feed.2.1 95 = .ok (.bastore, 1) := by decide +kernel
theorem dX12_feed_96 : decode mX12_feed.2.1 96 = .ok (.iinc 6 1, 3) := by decide +kernel
theorem dX12_feed_99 : decode mX12_feed.2.1 99 = .ok (.goto (-84), 3) := by decide +kernel
theorem dX12_feed_102 : decode mX12_feed.2.1 102 = .ok (.aload_n 0, 1) := by decide +kernel
theorem dX12_feed_103 : decode mX12_feed.2.1 103 = .ok (.dup, 1) := by decide +kernel
theorem dX12_feed_104 : decode mX12_feed.2.1 104 = .ok (.getfield 73, 3) := by decide +kernel
theorem dX12_feed_107 : decode mX12_feed.2.1 107 = .ok (.bipush 20, 2) := by decide +kernel
theorem dX12_feed_109 : decode mX12_feed.2.1 109 = .ok (.iadd, 1) := by decide +kernel
theorem dX12_feed_110 : decode mX12_feed.2.1 110 = .ok (.putfield 73, 3) := by decide +kernel
theorem dX12_feed_113 : decode mX12_feed.2.1 113 = .ok (.aload_n 0, 1) := by decide +kernel
theorem dX12_feed_114 : decode mX12_feed.2.1 114 = .ok (.getfield 73, 3) := by decide +kernel
theorem dX12_feed_117 : decode mX12_feed.2.1 117 = .ok (.ireturn, 1) := by decide +kernel
theorem dX12_finds_0 : decode mX12_finds.2.1 0 = .ok (.sipush 257, 3) := by decide +kernel
theorem dX12_finds_3 : decode mX12_finds.2.1 3 = .ok (.istore_n 3, 1) := by decide +kernel
theorem dX12_finds_4 : decode mX12_finds.2.1 4 = .ok (.iconst 0, 1) := by decide +kernel
theorem dX12_finds_5 : decode mX12_finds.2.1 5 = .ok (.istore 4, 2) := by decide +kernel
theorem dX12_finds_7 : decode mX12_finds.2.1 7 = .ok (.iload 4, 2) := by decide +kernel
theorem dX12_finds_9 : decode mX12_finds.2.1 9 = .ok (.iload_n 1, 1) := by decide +kernel
theorem dX12_finds_10 : decode mX12_finds.2.1 10 = .ok (.if_icmp .gt 98, 3) := by decide +kernel
theorem dX12_finds_13 : decode mX12_finds.2.1 13 = .ok (.iload 4, 2) := by decide +kernel
theorem dX12_finds_15 : decode mX12_finds.2.1 15 = .ok (.iload_n 1, 1) := by decide +kernel
theorem dX12_finds_16 : decode mX12_finds.2.1 16 = .ok (.if_icmp .ge 12, 3) := by decide +kernel
theorem dX12_finds_19 : decode mX12_finds.2.1 19 = .ok (.aload_n 0, 1) := by decide +kernel
theorem dX12_finds_20 : decode mX12_finds.2.1 20 = .ok (.getfield 37, 3) := by decide +kernel
theorem dX12_finds_23 : decode mX12_finds.2.1 23 = .ok (.iconst 1, 1) := by decide +kernel
theorem dX12_finds_24 : decode mX12_finds.2.1 24 = .ok (.iaload, 1) := by decide +kernel
theorem dX12_finds_25 : decode mX12_finds.2.1 25 = .ok (.goto 4, 3) := by decide +kernel
theorem dX12_finds_28 : decode mX12_finds.2.1 28 = .ok (.iload_n 2, 1) := by decide +kernel
theorem dX12_finds_29 : decode mX12_finds.2.1 29 = .ok (.istore 5, 2) := by decide +kernel
theorem dX12_finds_31 : decode mX12_finds.2.1 31 = .ok (.iconst 0, 1) := by decide +kernel
theorem dX12_finds_32 : decode mX12_finds.2.1 32 = .ok (.istore 6, 2) := by decide +kernel
theorem dX12_finds_34 : decode mX12_finds.2.1 34 = .ok (.iload 6, 2) := by decide +kernel
theorem dX12_finds_36 : decode mX12_finds.2.1 36 = .ok (.iload 5, 2) := by decide +kernel
theorem dX12_finds_38 : decode mX12_finds.2.1 38 = .ok (.if_icmp .ge 64, 3) := by decide +kernel
theorem dX12_finds_41 : decode mX12_finds.2.1 41 = .ok (.aload_n 0, 1) := by decide +kernel
theorem dX12_finds_42 : decode mX12_finds.2.1 42 = .ok (.iload 4, 2) := by decide +kernel
theorem dX12_finds_44 : decode mX12_finds.2.1 44 = .ok (.iload 6, 2) := by decide +kernel
theorem dX12_finds_46 : decode mX12_finds.2.1 46 = .ok (.invokevirtual 182, 3) := by decide +kernel
theorem dX12_finds_49 : decode mX12_finds.2.1 49 = .ok (.istore 7, 2) := by decide +kernel
theorem dX12_finds_51 : decode mX12_finds.2.1 51 = .ok (.iload 7, 2) := by decide +kernel
theorem dX12_finds_53 : decode mX12_finds.2.1 53 = .ok (.iload_n 3, 1) := by decide +kernel
theorem dX12_finds_54 : decode mX12_finds.2.1 54 = .ok (.if_icmp .ge 34, 3) := by decide +kernel
theorem dX12_finds_57 : decode mX12_finds.2.1 57 = .ok (.aload_n 0, 1) := by decide +kernel
theorem dX12_finds_58 : decode mX12_finds.2.1 58 = .ok (.iload 4, 2) := by decide +kernel
theorem dX12_finds_60 : decode mX12_finds.2.1 60 = .ok (.iload 6, 2) := by decide +kernel
theorem dX12_finds_62 : decode mX12_finds.2.1 62 = .ok (.iload 7, 2) := by decide +kernel
theorem dX12_finds_64 : decode mX12_finds.2.1 64 = .ok (.invokevirtual 169, 3) := by decide +kernel
theorem dX12_finds_67 : decode mX12_finds.2.1 67 = .ok (.ifCond .ne 6, 3) := by decide +kernel
theorem dX12_finds_70 : decode mX12_finds.2.1 70 = .ok (.goto 18, 3) := by decide +kernel
theorem dX12_finds_73 : decode mX12_finds.2.1 73 = .ok (.iload 7, 2) := by decide +kernel
theorem dX12_finds_75 : decode mX12_finds.2.1 75 = .ok (.istore_n 3, 1) := by decide +kernel
theorem dX12_finds_76 : decode mX12_finds.2.1 76 = .ok (.aload_n 0, 1) := by decide +kernel
theorem dX12_finds_77 : decode mX12_finds.2.1 77 = .ok (.iload 4, 2) := by decide +kernel
theorem dX12_finds_79 : decode mX12_finds.2.1 79 = .ok (.putfield 185, 3) := by decide +kernel
theorem dX12_finds_82 : decode mX12_finds.2.1 82 = .ok (.aload_n 0, 1) := by decide +kernel
theorem dX12_finds_83 : decode mX12_finds.2.1 83 = .ok (.iload 6, 2) := by decide +kernel
theorem dX12_finds_85 : decode mX12_finds.2.1 85 = .ok (.putfield 188, 3) := by decide +kernel
theorem dX12_finds_88 : decode mX12_finds.2.1 88 = .ok (.iload 6, 2) := by decide +kernel
theorem dX12_finds_90 : decode mX12_finds.2.1 90 = .ok (.aload_n 0, 1) := by decide +kernel
theorem dX12_finds_91 : decode mX12_finds.2.1 91 = .ok (.iload 4, 2) := by decide +kernel
theorem dX12_finds_93 : decode mX12_finds.2.1 93 = .ok (.invokevirtual 179, 3) := by decide +kernel
theorem dX12_finds_96 : decode mX12_finds.2.1 96 = .ok (.iadd, 1) := by decide +kernel
theorem dX12_finds_97 : decode mX12_finds.2.1 97 = .ok (.istore 6, 2) := by decide +kernel
theorem dX12_finds_99 : decode mX12_finds.2.1 99 = .ok (.goto (-65), 3) := by decide +kernel
theorem dX12_finds_102 : decode mX12_finds.2.1 102 = .ok (.iinc 4 1, 3) := by decide +kernel
theorem dX12_finds_105 : decode mX12_finds.2.1 105 = .ok (.goto (-98), 3) := by decide +kernel
theorem dX12_finds_108 : decode mX12_finds.2.1 108 = .ok (.iload_n 3, 1) := by decide +kernel
theorem dX12_finds_109 : decode mX12_finds.2.1 109 = .ok (.sipush 256, 3) := by decide +kernel
theorem dX12_finds_112 : decode mX12_finds.2.1 112 = .ok (.if_icmp .gt 7, 3) := by decide +kernel
theorem dX12_finds_115 : decode mX12_finds.2.1 115 = .ok (.iconst 1, 1) := by decide +kernel
theorem dX12_finds_116 : decode mX12_finds.2.1 116 = .ok (.goto 4, 3) := by decide +kernel
theorem dX12_finds_119 : decode mX12_finds.2.1 119 = .ok (.iconst 0, 1) := by decide +kernel
theorem dX12_finds_120 : decode mX12_finds.2.1 120 = .ok (.ireturn, 1) := by decide +kernel
theorem dX12_fixed_0 : decode mX12_fixed.2.1 0 = .ok (.iload_n 1, 1) := by decide +kernel
theorem dX12_fixed_1 : decode mX12_fixed.2.1 1 = .ok (.iconst (-1), 1) := by decide +kernel
theorem dX12_fixed_2 : decode mX12_fixed.2.1 2 = .ok (.if_icmp .eq 13, 3) := by decide +kernel
theorem dX12_fixed_5 : decode mX12_fixed.2.1 5 = .ok (.aload_n 0, 1) := by decide +kernel
theorem dX12_fixed_6 : decode mX12_fixed.2.1 6 = .ok (.iload_n 1, 1) := by decide +kernel
theorem dX12_fixed_7 : decode mX12_fixed.2.1 7 = .ok (.invokevirtual 232, 3) := by decide +kernel
theorem dX12_fixed_10 : decode mX12_fixed.2.1 10 = .ok (.ifCond .ne 5, 3) := by decide +kernel
theorem dX12_fixed_13 : decode mX12_fixed.2.1 13 = .ok (.iconst (-1), 1) := by decide +kernel
theorem dX12_fixed_14 : decode mX12_fixed.2.1 14 = .ok (.ireturn, 1) := by decide +kernel
theorem dX12_fixed_15 : decode mX12_fixed.2.1 15 = .ok (.aload_n 0, 1) := by decide +kernel
theorem dX12_fixed_16 : decode mX12_fixed.2.1 16 = .ok (.invokevirtual 293, 3) := by decide +kernel
theorem dX12_fixed_19 : decode mX12_fixed.2.1 19 = .ok (.pop, 1) := by decide +kernel
theorem dX12_fixed_20 : decode mX12_fixed.2.1 20 = .ok (.iload_n 1, 1) := by decide +kernel
theorem dX12_fixed_21 : decode mX12_fixed.2.1 21 = .ok (.iconst (-1), 1) := by decide +kernel
theorem dX12_fixed_22 : decode mX12_fixed.2.1 22 = .ok (.if_icmp .eq 17, 3) := by decide +kernel
theorem dX12_fixed_25 : decode mX12_fixed.2.1 25 = .ok (.aload_n 0, 1) := by decide +kernel
theorem dX12_fixed_26 : decode mX12_fixed.2.1 26 = .ok (.iload_n 1, 1) := by decide +kernel
theorem dX12_fixed_27 : decode mX12_fixed.2.1 27 = .ok (.invokevirtual 295, 3) := by decide +kernel
theorem dX12_fixed_30 : decode mX12_fixed.2.1 30 = .ok (.ifCond .eq 7, 3) := by decide +kernel
theorem dX12_fixed_33 : decode mX12_fixed.2.1 33 = .ok (.iconst 1, 1) := by decide +kernel
theorem dX12_fixed_34 : decode mX12_fixed.2.1 34 = .ok (.goto 4, 3) := by decide +kernel
theorem dX12_fixed_37 : decode mX12_fixed.2.1 37 = .ok (.iconst 0, 1) := by decide +kernel
theorem dX12_fixed_38 : decode mX12_fixed.2.1 38 = .ok (.ireturn, 1) := by decide +kernel
theorem dX12_fixed_39 : decode mX12_fixed.2.1 39 = .ok (.iconst 0, 1) := by decide +kernel
theorem dX12_fixed_40 : decode mX12_fixed.2.1 40 = .ok (.istore_n 2, 1) := by decide +kernel
theorem dX12_fixed_41 : decode mX12_fixed.2.1 41 = .ok (.iconst 0, 1) := by decide +kernel
theorem dX12_fixed_42 : decode mX12_fixed.2.1 42 = .ok (.istore_n 3, 1) := by decide +kernel
theorem dX12_fixed_43 : decode mX12_fixed.2.1 43 = .ok (.iload_n 3, 1) := by decide +kernel
theorem dX12_fixed_44 : decode mX12_fixed.2.1 44 = .ok (.aload_n 0, 1) := by decide +kernel
theorem dX12_fixed_45 : decode mX12_fixed.2.1 45 = .ok (.getfield 37, 3) := by decide +kernel
theorem dX12_fixed_48 : decode mX12_fixed.2.1 48 = .ok (.iconst 1, 1) := by decide +kernel
theorem dX12_fixed_49 : decode mX12_fixed.2.1 49 = .ok (.iaload, 1) := by decide +kernel
theorem dX12_fixed_50 : decode mX12_fixed.2.1 50 = .ok (.if_icmp .ge 25, 3) := by decide +kernel
theorem dX12_fixed_53 : decode mX12_fixed.2.1 53 = .ok (.iload_n 2, 1) := by decide +kernel
theorem dX12_fixed_54 : decode mX12_fixed.2.1 54 = .ok (.aload_n 0, 1) := by decide +kernel
theorem dX12_fixed_55 : decode mX12_fixed.2.1 55 = .ok (.iload_n 3, 1) := by decide +kernel
theorem dX12_fixed_56 : decode mX12_fixed.2.1 56 = .ok (.invokevirtual 295, 3) := by decide +kernel
theorem dX12_fixed_59 : decode mX12_fixed.2.1 59 = .ok (.ifCond .eq 7, 3) := by decide +kernel
theorem dX12_fixed_62 : decode mX12_fixed.2.1 62 = .ok (.iconst 1, 1) := by decide +kernel
theorem dX12_fixed_63 : decode mX12_fixed.2.1 63 = .ok (.goto 4, 3) := by decide +kernel
theorem dX12_fixed_66 : decode mX12_fixed.2.1 66 = .ok (.iconst 0, 1) := by decide +kernel
theorem dX12_fixed_67 : decode mX12_fixed.2.1 67 = .ok (.iadd, 1) := by decide +kernel
theorem dX12_fixed_68 : decode mX12_fixed.2.1 68 = .ok (.istore_n 2, 1) := by decide +kernel
theorem dX12_fixed_69 : decode mX12_fixed.2.1 69 = .ok (.iinc 3 1, 3) := by decide +kernel
theorem dX12_fixed_72 : decode mX12_fixed.2.1 72 = .ok (.goto (-29), 3) := by decide +kernel
theorem dX12_fixed_75 : decode mX12_fixed.2.1 75 = .ok (.iload_n 2, 1) := by decide +kernel
theorem dX12_fixed_76 : decode mX12_fixed.2.1 76 = .ok (.ireturn, 1) := by decide +kernel
theorem dX12_goesAll_0 : decode mX12_goesAll.2.1 0 = .ok (.aload_n 0, 1) := by decide +kernel
theorem dX12_goesAll_1 : decode mX12_goesAll.2.1 1 = .ok (.iload_n 1, 1) := by decide +kernel
theorem dX12_goesAll_2 : decode mX12_goesAll.2.1 2 = .ok (.invokevirtual 152, 3) := by decide +kernel
theorem dX12_goesAll_5 : decode mX12_goesAll.2.1 5 = .ok (.pop, 1) := by decide +kernel
theorem dX12_goesAll_6 : decode mX12_goesAll.2.1 6 = .ok (.aload_n 0, 1) := by decide +kernel
theorem dX12_goesAll_7 : decode mX12_goesAll.2.1 7 = .ok (.invokevirtual 158, 3) := by decide +kernel
theorem dX12_goesAll_10 : decode mX12_goesAll.2.1 10 = .ok (.aload_n 0, 1) := by decide +kernel
theorem dX12_goesAll_11 : decode mX12_goesAll.2.1 11 = .ok (.getfield 37, 3) := by decide +kernel
theorem dX12_goesAll_14 : decode mX12_goesAll.2.1 14 = .ok (.iconst 2, 1) := by decide +kernel
theorem dX12_goesAll_15 : decode mX12_goesAll.2.1 15 = .ok (.iaload, 1) := by decide +kernel
theorem dX12_goesAll_16 : decode mX12_goesAll.2.1 16 = .ok (.aload_n 0, 1) := by decide +kernel
theorem dX12_goesAll_17 : decode mX12_goesAll.2.1 17 = .ok (.getfield 27, 3) := by decide +kernel
theorem dX12_goesAll_20 : decode mX12_goesAll.2.1 20 = .ok (.bipush 6, 2) := by decide +kernel
theorem dX12_goesAll_22 : decode mX12_goesAll.2.1 22 = .ok (.iaload, 1) := by decide +kernel
theorem dX12_goesAll_23 : decode mX12_goesAll.2.1 23 = .ok (.if_icmp .ge 10, 3) := by decide +kernel
theorem dX12_goesAll_26 : decode mX12_goesAll.2.1 26 = .ok (.aload_n 0, 1) := by decide +kernel
theorem dX12_goesAll_27 : decode mX12_goesAll.2.1 27 = .ok (.invokevirtual 204, 3) := by decide +kernel
theorem dX12_goesAll_30 : decode mX12_goesAll.2.1 30 = .ok (.goto (-20), 3) := by decide +kernel
theorem dX12_goesAll_33 : decode mX12_goesAll.2.1 33 = .ok (.aload_n 0, 1) := by decide +kernel
theorem dX12_goesAll_34 : decode mX12_goesAll.2.1 34 = .ok (.invokevirtual 221, 3) := by decide +kernel
theorem dX12_goesAll_37 : decode mX12_goesAll.2.1 37 = .ok (.ifCond .eq 14, 3) := by decide +kernel
theorem dX12_goesAll_40 : decode mX12_goesAll.2.1 40 = .ok (.aload_n 0, 1) := by decide +kernel
theorem dX12_goesAll_41 : decode mX12_goesAll.2.1 41 = .ok (.invokevirtual 224, 3) := by decide +kernel
theorem dX12_goesAll_44 : decode mX12_goesAll.2.1 44 = .ok (.ifCond .le 7, 3) := by decide +kernel
theorem dX12_goesAll_47 : decode mX12_goesAll.2.1 47 = .ok (.iconst 1, 1) := by decide +kernel
theorem dX12_goesAll_48 : decode mX12_goesAll.2.1 48 = .ok (.goto 4, 3) := by decide +kernel
theorem dX12_goesAll_51 : decode mX12_goesAll.2.1 51 = .ok (.iconst 0, 1) := by decide +kernel
theorem dX12_goesAll_52 : decode mX12_goesAll.2.1 52 = .ok (.ireturn, 1) := by decide +kernel
theorem dX12_halves_0 : decode mX12_halves.2.1 0 = .ok (.iload_n 2, 1) := by decide +kernel
theorem dX12_halves_1 : decode mX12_halves.2.1 1 = .ok (.istore 4, 2) := by decide +kernel
theorem dX12_halves_3 : decode mX12_halves.2.1 3 = .ok (.iload_n 3, 1) := by decide +kernel
theorem dX12_halves_4 : decode mX12_halves.2.1 4 = .ok (.istore 5, 2) := by decide +kernel
theorem dX12_halves_6 : decode mX12_halves.2.1 6 = .ok (.iload 5, 2) := by decide +kernel
theorem dX12_halves_8 : decode mX12_halves.2.1 8 = .ok (.iconst 1, 1) := by decide +kernel
theorem dX12_halves_9 : decode mX12_halves.2.1 9 = .ok (.if_icmp .le 45, 3) := by decide +kernel
theorem dX12_halves_12 : decode mX12_halves.2.1 12 = .ok (.iload 5, 2) := by decide +kernel
theorem dX12_halves_14 : decode mX12_halves.2.1 14 = .ok (.iconst 2, 1) := by decide +kernel
theorem dX12_halves_15 : decode mX12_halves.2.1 15 = .ok (.idiv, 1) := by decide +kernel
theorem dX12_halves_16 : decode mX12_halves.2.1 16 = .ok (.istore 6, 2) := by decide +kernel
theorem dX12_halves_18 : decode mX12_halves.2.1 18 = .ok (.aload_n 0, 1) := by decide +kernel
theorem dX12_halves_19 : decode mX12_halves.2.1 19 = .ok (.iload_n 1, 1) := by decide +kernel
theorem dX12_halves_20 : decode mX12_halves.2.1 20 = .ok (.iload 4, 2) := by decide +kernel
theorem dX12_halves_22 : decode mX12_halves.2.1 22 = .ok (.iload 6, 2) := by decide +kernel
theorem dX12_halves_24 : decode mX12_halves.2.1 24 = .ok (.invokevirtual 173, 3) := by decide +kernel
theorem dX12_halves_27 : decode mX12_halves.2.1 27 = .ok (.ifCond .eq 10, 3) := by decide +kernel
theorem dX12_halves_30 : decode mX12_halves.2.1 30 = .ok (.iload 6, 2) := by decide +kernel
theorem dX12_halves_32 : decode mX12_halves.2.1 32 = .ok (.istore 5, 2) := by decide +kernel
theorem dX12_halves_34 : decode mX12_halves.2.1 34 = .ok (.goto 17, 3) := by decide +kernel
theorem dX12_halves_37 : decode mX12_halves.2.1 37 = .ok (.iload 4, 2) := by decide +kernel
theorem dX12_halves_39 : decode mX12_halves.2.1 39 = .ok (.iload 6, 2) := by decide +kernel
theorem dX12_halves_41 : decode mX12_halves.2.1 41 = .ok (.iadd, 1) := by decide +kernel
theorem dX12_halves_42 : decode mX12_halves.2.1 42 = .ok (.istore 4, 2) := by decide +kernel
theorem dX12_halves_44 : decode mX12_halves.2.1 44 = .ok (.iload 5, 2) := by decide +kernel
theorem dX12_halves_46 : decode mX12_halves.2.1 46 = .ok (.iload 6, 2) := by decide +kernel
theorem dX12_halves_48 : decode mX12_halves.2.1 48 = .ok (.isub, 1) := by decide +kernel
theorem dX12_halves_49 : decode mX12_halves.2.1 49 = .ok (.istore 5, 2) := by decide +kernel
theorem dX12_halves_51 : decode mX12_halves.2.1 51 = .ok (.goto (-45), 3) := by decide +kernel
theorem dX12_halves_54 : decode mX12_halves.2.1 54 = .ok (.aload_n 0, 1) := by decide +kernel
theorem dX12_halves_55 : decode mX12_halves.2.1 55 = .ok (.aload_n 0, 1) := by decide +kernel
theorem dX12_halves_56 : decode mX12_halves.2.1 56 = .ok (.getfield 37, 3) := by decide +kernel
theorem dX12_halves_59 : decode mX12_halves.2.1 59 = .ok (.sipush 1044, 3) := by decide +kernel
theorem dX12_halves_62 : decode mX12_halves.2.1 62 = .ok (.sipush 256, 3) := by decide +kernel
theorem dX12_halves_65 : decode mX12_halves.2.1 65 = .ok (.iload_n 1, 1) := by decide +kernel
theorem dX12_halves_66 : decode mX12_halves.2.1 66 = .ok (.imul, 1) := by decide +kernel
theorem dX12_halves_67 : decode mX12_halves.2.1 67 = .ok (.iadd, 1) := by decide +kernel
theorem dX12_halves_68 : decode mX12_halves.2.1 68 = .ok (.iload 4, 2) := by decide +kernel
theorem dX12_halves_70 : decode mX12_halves.2.1 70 = .ok (.iadd, 1) := by decide +kernel
theorem dX12_halves_71 : decode mX12_halves.2.1 71 = .ok (.iaload, 1) := by decide +kernel
theorem dX12_halves_72 : decode mX12_halves.2.1 72 = .ok (.invokevirtual 176, 3) := by decide +kernel
theorem dX12_halves_75 : decode mX12_halves.2.1 75 = .ok (.return_, 1) := by decide +kernel
theorem dX12_image_0 : decode mX12_image.2.1 0 = .ok (.iload_n 1, 1) := by decide +kernel
theorem dX12_image_1 : decode mX12_image.2.1 1 = .ok (.i2l, 1) := by decide +kernel
theorem dX12_image_2 : decode mX12_image.2.1 2 = .ok (.lconst 0, 1) := by decide +kernel
theorem dX12_image_3 : decode mX12_image.2.1 3 = .ok (.lconst 1, 1) := by decide +kernel
theorem dX12_image_4 : decode mX12_image.2.1 4 = .ok (.invokestatic 76, 3) := by decide +kernel
theorem dX12_image_7 : decode mX12_image.2.1 7 = .ok (.ifCond .ne 5, 3) := by decide +kernel
theorem dX12_image_10 : decode mX12_image.2.1 10 = .ok (.iconst (-1), 1) := by decide +kernel
theorem dX12_image_11 : decode mX12_image.2.1 11 = .ok (.ireturn, 1) := by decide +kernel
theorem dX12_image_12 : decode mX12_image.2.1 12 = .ok (.aload_n 0, 1) := by decide +kernel
theorem dX12_image_13 : decode mX12_image.2.1 13 = .ok (.getfield 37, 3) := by decide +kernel
theorem dX12_image_16 : decode mX12_image.2.1 16 = .ok (.iconst 0, 1) := by decide +kernel
theorem dX12_image_17 : decode mX12_image.2.1 17 = .ok (.aload_n 0, 1) := by decide +kernel
theorem dX12_image_18 : decode mX12_image.2.1 18 = .ok (.getfield 48, 3) := by decide +kernel
theorem dX12_image_21 : decode mX12_image.2.1 21 = .ok (.sipush 17510, 3) := by decide +kernel
theorem dX12_image_24 : decode mX12_image.2.1 24 = .ok (.iload_n 1, 1) := by decide +kernel
theorem dX12_image_25 : decode mX12_image.2.1 25 = .ok (.imul, 1) := by decide +kernel
theorem dX12_image_26 : decode mX12_image.2.1 26 = .ok (.invokestatic 123, 3) := by decide +kernel
theorem dX12_image_29 : decode mX12_image.2.1 29 = .ok (.aload_n 0, 1) := by decide +kernel
theorem dX12_image_30 : decode mX12_image.2.1 30 = .ok (.getfield 51, 3) := by decide +kernel
theorem dX12_image_33 : decode mX12_image.2.1 33 = .ok (.iload_n 1, 1) := by decide +kernel
theorem dX12_image_34 : decode mX12_image.2.1 34 = .ok (.iconst 1, 1) := by decide +kernel
theorem dX12_image_35 : decode mX12_image.2.1 35 = .ok (.bastore, 1) := by decide +kernel
theorem dX12_image_36 : decode mX12_image.2.1 36 = .ok (.aload_n 0, 1) := by decide +kernel
theorem dX12_image_37 : decode mX12_image.2.1 37 = .ok (.getfield 37, 3) := by decide +kernel
theorem dX12_image_40 : decode mX12_image.2.1 40 = .ok (.iconst 0, 1) := by decide +kernel
theorem dX12_image_41 : decode mX12_image.2.1 41 = .ok (.iaload, 1) := by decide +kernel
theorem dX12_image_42 : decode mX12_image.2.1 42 = .ok (.ireturn, 1) := by decide +kernel
theorem dX12_init_0 : decode mX12_init.2.1 0 = .ok (.aload_n 0, 1) := by decide +kernel
theorem dX12_init_1 : decode mX12_init.2.1 1 = .ok (.invokespecial 1, 3) := by decide +kernel
theorem dX12_init_4 : decode mX12_init.2.1 4 = .ok (.aload_n 0, 1) := by decide +kernel
theorem dX12_init_5 : decode mX12_init.2.1 5 = .ok (.sipush 200, 3) := by decide +kernel
theorem dX12_init_8 : decode mX12_init.2.1 8 = .ok (.newarray .byte, 2) := by decide +kernel
theorem dX12_init_10 : decode mX12_init.2.1 10 = .ok (.putfield 7, 3) := by decide +kernel
theorem dX12_init_13 : decode mX12_init.2.1 13 = .ok (.aload_n 0, 1) := by decide +kernel
theorem dX12_init_14 : decode mX12_init.2.1 14 = .ok (.bipush 72, 2) := by decide +kernel
theorem dX12_init_16 : decode mX12_init.2.1 16 = .ok (.newarray .byte, 2) := by decide +kernel
theorem dX12_init_18 : decode mX12_init.2.1 18 = .ok (.dup, 1) := by decide +kernel
theorem dX12_init_19 : decode mX12_init.2.1 19 = .ok (.iconst 0, 1) := by decide +kernel
theorem dX12_init_20 : decode mX12_init.2.1 20 = .ok (.bipush 115, 2) := by decide +kernel
theorem dX12_init_22 : decode mX12_init.2.1 22 = .ok (.bastore, 1) := by decide +kernel
theorem dX12_init_23 : decode mX12_init.2.1 23 = .ok (.dup, 1) := by decide +kernel
theorem dX12_init_24 : decode mX12_init.2.1 24 = .ok (.iconst 1, 1) := by decide +kernel
theorem dX12_init_25 : decode mX12_init.2.1 25 = .ok (.bipush 105, 2) := by decide +kernel
theorem dX12_init_27 : decode mX12_init.2.1 27 = .ok (.bastore, 1) := by decide +kernel
theorem dX12_init_28 : decode mX12_init.2.1 28 = .ok (.dup, 1) := by decide +kernel
theorem dX12_init_29 : decode mX12_init.2.1 29 = .ok (.iconst 2, 1) := by decide +kernel
theorem dX12_init_30 : decode mX12_init.2.1 30 = .ok (.bipush 103, 2) := by decide +kernel
theorem dX12_init_32 : decode mX12_init.2.1 32 = .ok (.bastore, 1) := by decide +kernel
theorem dX12_init_33 : decode mX12_init.2.1 33 = .ok (.dup, 1) := by decide +kernel
theorem dX12_init_34 : decode mX12_init.2.1 34 = .ok (.iconst 3, 1) := by decide +kernel
theorem dX12_init_35 : decode mX12_init.2.1 35 = .ok (.bipush 110, 2) := by decide +kernel
theorem dX12_init_37 : decode mX12_init.2.1 37 = .ok (.bastore, 1) := by decide +kernel
theorem dX12_init_38 : decode mX12_init.2.1 38 = .ok (.dup, 1) := by decide +kernel
theorem dX12_init_39 : decode mX12_init.2.1 39 = .ok (.iconst 4, 1) := by decide +kernel
theorem dX12_init_40 : decode mX12_init.2.1 40 = .ok (.bipush 97, 2) := by decide +kernel
theorem dX12_init_42 : decode mX12_init.2.1 42 = .ok (.bastore, 1) := by decide +kernel
theorem dX12_init_43 : decode mX12_init.2.1 43 = .ok (.dup, 1) := by decide +kernel
theorem dX12_init_44 : decode mX12_init.2.1 44 = .ok (.iconst 5, 1) := by decide +kernel
theorem dX12_init_45 : decode mX12_init.2.1 45 = .ok (.bipush 108, 2) := by decide +kernel
theorem dX12_init_47 : decode mX12_init.2.1 47 = .ok (.bastore, 1) := by decide +kernel
theorem dX12_init_48 : decode mX12_init.2.1 48 = .ok (.dup, 1) := by decide +kernel
theorem dX12_init_49 : decode mX12_init.2.1 49 = .ok (.bipush 6, 2) := by decide +kernel
theorem dX12_init_51 : decode mX12_init.2.1 51 = .ok (.bipush 115, 2) := by decide +kernel
theorem dX12_init_53 : decode mX12_init.2.1 53 = .ok (.bastore, 1) := by decide +kernel
theorem dX12_init_54 : decode mX12_init.2.1 54 = .ok (.dup, 1) := by decide +kernel
theorem dX12_init_55 : decode mX12_init.2.1 55 = .ok (.bipush 7, 2) := by decide +kernel
theorem dX12_init_57 : decode mX12_init.2.1 57 = .ok (.iconst 0, 1) := by decide +kernel
theorem dX12_init_58 : decode mX12_init.2.1 58 = .ok (.bastore, 1) := by decide +kernel
theorem dX12_init_59 : decode mX12_init.2.1 59 = .ok (.dup, 1) := by decide +kernel
theorem dX12_init_60 : decode mX12_init.2.1 60 = .ok (.bipush 8, 2) := by decide +kernel
theorem dX12_init_62 : decode mX12_init.2.1 62 = .ok (.bipush 115, 2) := by decide +kernel
theorem dX12_init_64 : decode mX12_init.2.1 64 = .ok (.bastore, 1) := by decide +kernel
theorem dX12_init_65 : decode mX12_init.2.1 65 = .ok (.dup, 1) := by decide +kernel
theorem dX12_init_66 : decode mX12_init.2.1 66 = .ok (.bipush 9, 2) := by decide +kernel
theorem dX12_init_68 : decode mX12_init.2.1 68 = .ok (.bipush 101, 2) := by decide +kernel
theorem dX12_init_70 : decode mX12_init.2.1 70 = .ok (.bastore, 1) := by decide +kernel
theorem dX12_init_71 : decode mX12_init.2.1 71 = .ok (.dup, 1) := by decide +kernel
theorem dX12_init_72 : decode mX12_init.2.1 72 = .ok (.bipush 10, 2) := by decide +kernel
theorem dX12_init_74 : decode mX12_init.2.1 74 = .ok (.bipush 101, 2) := by decide +kernel
theorem dX12_init_76 : decode mX12_init.2.1 76 = .ok (.bastore, 1) := by decide +kernel
theorem dX12_init_77 : decode mX12_init.2.1 77 = .ok (.dup, 1) := by decide +kernel
theorem dX12_init_78 : decode mX12_init.2.1 78 = .ok (.bipush 11, 2) := by decide +kernel
theorem dX12_init_80 : decode mX12_init.2.1 80 = .ok (.bipush 100, 2) := by decide +kernel
theorem dX12_init_82 : decode mX12_init.2.1 82 = .ok (.bastore, 1) := by decide +kernel
theorem dX12_init_83 : decode mX12_init.2.1 83 = .ok (.dup, 1) := by decide +kernel
theorem dX12_init_84 : decode mX12_init.2.1 84 = .ok (.bipush 12, 2) := by decide +kernel
theorem dX12_init_86 : decode mX12_init.2.1 86 = .ok (.iconst 0, 1) := by decide +kernel
theorem dX12_init_87 : decode mX12_init.2.1 87 = .ok (.bastore, 1) := by decide +kernel
theorem dX12_init_88 : decode mX12_init.2.1 88 = .ok (.dup, 1) := by decide +kernel
theorem dX12_init_89 : decode mX12_init.2.1 89 = .ok (.bipush 13, 2) := by decide +kernel
theorem dX12_init_91 : decode mX12_init.2.1 91 = .ok (.iconst 0, 1) := by decide +kernel
theorem dX12_init_92 : decode mX12_init.2.1 92 = .ok (.bastore, 1) := by decide +kernel
theorem dX12_init_93 : decode mX12_init.2.1 93 = .ok (.dup, 1) := by decide +kernel
theorem dX12_init_94 : decode mX12_init.2.1 94 = .ok (.bipush 14, 2) := by decide +kernel
theorem dX12_init_96 : decode mX12_init.2.1 96 = .ok (.iconst 0, 1) := by decide +kernel
theorem dX12_init_97 : decode mX12_init.2.1 97 = .ok (.bastore, 1) := by decide +kernel
theorem dX12_init_98 : decode mX12_init.2.1 98 = .ok (.dup, 1) := by decide +kernel
theorem dX12_init_99 : decode mX12_init.2.1 99 = .ok (.bipush 15, 2) := by decide +kernel
theorem dX12_init_101 : decode mX12_init.2.1 101 = .ok (.iconst 0, 1) := by decide +kernel
theorem dX12_init_102 : decode mX12_init.2.1 102 = .ok (.bastore, 1) := by decide +kernel
theorem dX12_init_103 : decode mX12_init.2.1 103 = .ok (.dup, 1) := by decide +kernel
theorem dX12_init_104 : decode mX12_init.2.1 104 = .ok (.bipush 16, 2) := by decide +kernel
theorem dX12_init_106 : decode mX12_init.2.1 106 = .ok (.bipush 110, 2) := by decide +kernel
theorem dX12_init_108 : decode mX12_init.2.1 108 = .ok (.bastore, 1) := by decide +kernel
theorem dX12_init_109 : decode mX12_init.2.1 109 = .ok (.dup, 1) := by decide +kernel
theorem dX12_init_110 : decode mX12_init.2.1 110 = .ok (.bipush 17, 2) := by decide +kernel
theorem dX12_init_112 : decode mX12_init.2.1 112 = .ok (.bipush 111, 2) := by decide +kernel
theorem dX12_init_114 : decode mX12_init.2.1 114 = .ok (.bastore, 1) := by decide +kernel
theorem dX12_init_115 : decode mX12_init.2.1 115 = .ok (.dup, 1) := by decide +kernel
theorem dX12_init_116 : decode mX12_init.2.1 116 = .ok (.bipush 18, 2) := by decide +kernel
theorem dX12_init_118 : decode mX12_init.2.1 118 = .ok (.bipush 105, 2) := by decide +kernel
theorem dX12_init_120 : decode mX12_init.2.1 120 = .ok (.bastore, 1) := by decide +kernel
theorem dX12_init_121 : decode mX12_init.2.1 121 = .ok (.dup, 1) := by decide +kernel
theorem dX12_init_122 : decode mX12_init.2.1 122 = .ok (.bipush 19, 2) := by decide +kernel
theorem dX12_init_124 : decode mX12_init.2.1 124 = .ok (.bipush 115, 2) := by decide +kernel
theorem dX12_init_126 : decode mX12_init.2.1 126 = .ok (.bastore, 1) := by decide +kernel
theorem dX12_init_127 : decode mX12_init.2.1 127 = .ok (.dup, 1) := by decide +kernel
theorem dX12_init_128 : decode mX12_init.2.1 128 = .ok (.bipush 20, 2) := by decide +kernel
theorem dX12_init_130 : decode mX12_init.2.1 130 = .ok (.bipush 101, 2) := by decide +kernel
theorem dX12_init_132 : decode mX12_init.2.1 132 = .ok (.bastore, 1) := by decide +kernel
theorem dX12_init_133 : decode mX12_init.2.1 133 = .ok (.dup, 1) := by decide +kernel
theorem dX12_init_134 : decode mX12_init.2.1 134 = .ok (.bipush 21, 2) := by decide +kernel
theorem dX12_init_136 : decode mX12_init.2.1 136 = .ok (.iconst 0, 1) := by decide +kernel
theorem dX12_init_137 : decode mX12_init.2.1 137 = .ok (.bastore, 1) := by decide +kernel
theorem dX12_init_138 : decode mX12_init.2.1 138 = .ok (.dup, 1) := by decide +kernel
theorem dX12_init_139 : decode mX12_init.2.1 139 = .ok (.bipush 22, 2) := by decide +kernel
theorem dX12_init_141 : decode mX12_init.2.1 141 = .ok (.iconst 0, 1) := by decide +kernel
theorem dX12_init_142 : decode mX12_init.2.1 142 = .ok (.bastore, 1) := by decide +kernel
theorem dX12_init_143 : decode mX12_init.2.1 143 = .ok (.dup, 1) := by decide +kernel
theorem dX12_init_144 : decode mX12_init.2.1 144 = .ok (.bipush 23, 2) := by decide +kernel
theorem dX12_init_146 : decode mX12_init.2.1 146 = .ok (.iconst 0, 1) := by decide +kernel
theorem dX12_init_147 : decode mX12_init.2.1 147 = .ok (.bastore, 1) := by decide +kernel
theorem dX12_init_148 : decode mX12_init.2.1 148 = .ok (.dup, 1) := by decide +kernel
theorem dX12_init_149 : decode mX12_init.2.1 149 = .ok (.bipush 24, 2) := by decide +kernel
theorem dX12_init_151 : decode mX12_init.2.1 151 = .ok (.bipush 115, 2) := by decide +kernel
theorem dX12_init_153 : decode mX12_init.2.1 153 = .ok (.bastore, 1) := by decide +kernel
theorem dX12_init_154 : decode mX12_init.2.1 154 = .ok (.dup, 1) := by decide +kernel
theorem dX12_init_155 : decode mX12_init.2.1 155 = .ok (.bipush 25, 2) := by decide +kernel
theorem dX12_init_157 : decode mX12_init.2.1 157 = .ok (.bipush 112, 2) := by decide +kernel
theorem dX12_init_159 : decode mX12_init.2.1 159 = .ok (.bastore, 1) := by decide +kernel
theorem dX12_init_160 : decode mX12_init.2.1 160 = .ok (.dup, 1) := by decide +kernel
theorem dX12_init_161 : decode mX12_init.2.1 161 = .ok (.bipush 26, 2) := by decide +kernel
theorem dX12_init_163 : decode mX12_init.2.1 163 = .ok (.bipush 121, 2) := by decide +kernel
theorem dX12_init_165 : decode mX12_init.2.1 165 = .ok (.bastore, 1) := by decide +kernel
theorem dX12_init_166 : decode mX12_init.2.1 166 = .ok (.dup, 1) := by decide +kernel
theorem dX12_init_167 : decode mX12_init.2.1 167 = .ok (.bipush 27, 2) := by decide +kernel
theorem dX12_init_169 : decode mX12_init.2.1 169 = .ok (.iconst 0, 1) := by decide +kernel
theorem dX12_init_170 : decode mX12_init.2.1 170 = .ok (.bastore, 1) := by decide +kernel
theorem dX12_init_171 : decode mX12_init.2.1 171 = .ok (.dup, 1) := by decide +kernel
theorem dX12_init_172 : decode mX12_init.2.1 172 = .ok (.bipush 28, 2) := by decide +kernel
theorem dX12_init_174 : decode mX12_init.2.1 174 = .ok (.iconst 0, 1) := by decide +kernel
theorem dX12_init_175 : decode mX12_init.2.1 175 = .ok (.bastore, 1) := by decide +kernel
theorem dX12_init_176 : decode mX12_init.2.1 176 = .ok (.dup, 1) := by decide +kernel
theorem dX12_init_177 : decode mX12_init.2.1 177 = .ok (.bipush 29, 2) := by decide +kernel
theorem dX12_init_179 : decode mX12_init.2.1 179 = .ok (.iconst 0, 1) := by decide +kernel
theorem dX12_init_180 : decode mX12_init.2.1 180 = .ok (.bastore, 1) := by decide +kernel
theorem dX12_init_181 : decode mX12_init.2.1 181 = .ok (.dup, 1) := by decide +kernel
theorem dX12_init_182 : decode mX12_init.2.1 182 = .ok (.bipush 30, 2) := by decide +kernel
theorem dX12_init_184 : decode mX12_init.2.1 184 = .ok (.iconst 0, 1) := by decide +kernel
theorem dX12_init_185 : decode mX12_init.2.1 185 = .ok (.bastore, 1) := by decide +kernel
theorem dX12_init_186 : decode mX12_init.2.1 186 = .ok (.dup, 1) := by decide +kernel
theorem dX12_init_187 : decode mX12_init.2.1 187 = .ok (.bipush 31, 2) := by decide +kernel
theorem dX12_init_189 : decode mX12_init.2.1 189 = .ok (.iconst 0, 1) := by decide +kernel
theorem dX12_init_190 : decode mX12_init.2.1 190 = .ok (.bastore, 1) := by decide +kernel
theorem dX12_init_191 : decode mX12_init.2.1 191 = .ok (.dup, 1) := by decide +kernel
theorem dX12_init_192 : decode mX12_init.2.1 192 = .ok (.bipush 32, 2) := by decide +kernel
theorem dX12_init_194 : decode mX12_init.2.1 194 = .ok (.bipush 115, 2) := by decide +kernel
theorem dX12_init_196 : decode mX12_init.2.1 196 = .ok (.bastore, 1) := by decide +kernel
theorem dX12_init_197 : decode mX12_init.2.1 197 = .ok (.dup, 1) := by decide +kernel
theorem dX12_init_198 : decode mX12_init.2.1 198 = .ok (.bipush 33, 2) := by decide +kernel
theorem dX12_init_200 : decode mX12_init.2.1 200 = .ok (.bipush 97, 2) := by decide +kernel
theorem dX12_init_202 : decode mX12_init.2.1 202 = .ok (.bastore, 1) := by decide +kernel
theorem dX12_init_203 : decode mX12_init.2.1 203 = .ok (.dup, 1) := by decide +kernel
theorem dX12_init_204 : decode mX12_init.2.1 204 = .ok (.bipush 34, 2) := by decide +kernel
theorem dX12_init_206 : decode mX12_init.2.1 206 = .ok (.bipush 109, 2) := by decide +kernel
theorem dX12_init_208 : decode mX12_init.2.1 208 = .ok (.bastore, 1) := by decide +kernel
theorem dX12_init_209 : decode mX12_init.2.1 209 = .ok (.dup, 1) := by decide +kernel
theorem dX12_init_210 : decode mX12_init.2.1 210 = .ok (.bipush 35, 2) := by decide +kernel
theorem dX12_init_212 : decode mX12_init.2.1 212 = .ok (.bipush 112, 2) := by decide +kernel
theorem dX12_init_214 : decode mX12_init.2.1 214 = .ok (.bastore, 1) := by decide +kernel
theorem dX12_init_215 : decode mX12_init.2.1 215 = .ok (.dup, 1) := by decide +kernel
theorem dX12_init_216 : decode mX12_init.2.1 216 = .ok (.bipush 36, 2) := by decide +kernel
theorem dX12_init_218 : decode mX12_init.2.1 218 = .ok (.bipush 108, 2) := by decide +kernel
theorem dX12_init_220 : decode mX12_init.2.1 220 = .ok (.bastore, 1) := by decide +kernel
theorem dX12_init_221 : decode mX12_init.2.1 221 = .ok (.dup, 1) := by decide +kernel
theorem dX12_init_222 : decode mX12_init.2.1 222 = .ok (.bipush 37, 2) := by decide +kernel
theorem dX12_init_224 : decode mX12_init.2.1 224 = .ok (.bipush 101, 2) := by decide +kernel
theorem dX12_init_226 : decode mX12_init.2.1 226 = .ok (.bastore, 1) := by decide +kernel
theorem dX12_init_227 : decode mX12_init.2.1 227 = .ok (.dup, 1) := by decide +kernel
theorem dX12_init_228 : decode mX12_init.2.1 228 = .ok (.bipush 38, 2) := by decide +kernel
theorem dX12_init_230 : decode mX12_init.2.1 230 = .ok (.iconst 0, 1) := by decide +kernel
theorem dX12_init_231 : decode mX12_init.2.1 231 = .ok (.bastore, 1) := by decide +kernel
theorem dX12_init_232 : decode mX12_init.2.1 232 = .ok (.dup, 1) := by decide +kernel
theorem dX12_init_233 : decode mX12_init.2.1 233 = .ok (.bipush 39, 2) := by decide +kernel
theorem dX12_init_235 : decode mX12_init.2.1 235 = .ok (.iconst 0, 1) := by decide +kernel
theorem dX12_init_236 : decode mX12_init.2.1 236 = .ok (.bastore, 1) := by decide +kernel
theorem dX12_init_237 : decode mX12_init.2.1 237 = .ok (.dup, 1) := by decide +kernel
theorem dX12_init_238 : decode mX12_init.2.1 238 = .ok (.bipush 40, 2) := by decide +kernel
theorem dX12_init_240 : decode mX12_init.2.1 240 = .ok (.bipush 98, 2) := by decide +kernel
theorem dX12_init_242 : decode mX12_init.2.1 242 = .ok (.bastore, 1) := by decide +kernel
theorem dX12_init_243 : decode mX12_init.2.1 243 = .ok (.dup, 1) := by decide +kernel
theorem dX12_init_244 : decode mX12_init.2.1 244 = .ok (.bipush 41, 2) := by decide +kernel
theorem dX12_init_246 : decode mX12_init.2.1 246 = .ok (.bipush 108, 2) := by decide +kernel
theorem dX12_init_248 : decode mX12_init.2.1 248 = .ok (.bastore, 1) := by decide +kernel
theorem dX12_init_249 : decode mX12_init.2.1 249 = .ok (.dup, 1) := by decide +kernel
theorem dX12_init_250 : decode mX12_init.2.1 250 = .ok (.bipush 42, 2) := by decide +kernel
theorem dX12_init_252 : decode mX12_init.2.1 252 = .ok (.bipush 111, 2) := by decide +kernel
theorem dX12_init_254 : decode mX12_init.2.1 254 = .ok (.bastore, 1) := by decide +kernel
theorem dX12_init_255 : decode mX12_init.2.1 255 = .ok (.dup, 1) := by decide +kernel
theorem dX12_init_256 : decode mX12_init.2.1 256 = .ok (.bipush 43, 2) := by decide +kernel
theorem dX12_init_258 : decode mX12_init.2.1 258 = .ok (.bipush 99, 2) := by decide +kernel
theorem dX12_init_260 : decode mX12_init.2.1 260 = .ok (.bastore, 1) := by decide +kernel
theorem dX12_init_261 : decode mX12_init.2.1 261 = .ok (.dup, 1) := by decide +kernel
theorem dX12_init_262 : decode mX12_init.2.1 262 = .ok (.bipush 44, 2) := by decide +kernel
theorem dX12_init_264 : decode mX12_init.2.1 264 = .ok (.bipush 107, 2) := by decide +kernel
theorem dX12_init_266 : decode mX12_init.2.1 266 = .ok (.bastore, 1) := by decide +kernel
theorem dX12_init_267 : decode mX12_init.2.1 267 = .ok (.dup, 1) := by decide +kernel
theorem dX12_init_268 : decode mX12_init.2.1 268 = .ok (.bipush 45, 2) := by decide +kernel
theorem dX12_init_270 : decode mX12_init.2.1 270 = .ok (.iconst 0, 1) := by decide +kernel
theorem dX12_init_271 : decode mX12_init.2.1 271 = .ok (.bastore, 1) := by decide +kernel
theorem dX12_init_272 : decode mX12_init.2.1 272 = .ok (.dup, 1) := by decide +kernel
theorem dX12_init_273 : decode mX12_init.2.1 273 = .ok (.bipush 46, 2) := by decide +kernel
theorem dX12_init_275 : decode mX12_init.2.1 275 = .ok (.iconst 0, 1) := by decide +kernel
theorem dX12_init_276 : decode mX12_init.2.1 276 = .ok (.bastore, 1) := by decide +kernel
theorem dX12_init_277 : decode mX12_init.2.1 277 = .ok (.dup, 1) := by decide +kernel
theorem dX12_init_278 : decode mX12_init.2.1 278 = .ok (.bipush 47, 2) := by decide +kernel
theorem dX12_init_280 : decode mX12_init.2.1 280 = .ok (.iconst 0, 1) := by decide +kernel
theorem dX12_init_281 : decode mX12_init.2.1 281 = .ok (.bastore, 1) := by decide +kernel
theorem dX12_init_282 : decode mX12_init.2.1 282 = .ok (.dup, 1) := by decide +kernel
theorem dX12_init_283 : decode mX12_init.2.1 283 = .ok (.bipush 48, 2) := by decide +kernel
theorem dX12_init_285 : decode mX12_init.2.1 285 = .ok (.bipush 112, 2) := by decide +kernel
theorem dX12_init_287 : decode mX12_init.2.1 287 = .ok (.bastore, 1) := by decide +kernel
theorem dX12_init_288 : decode mX12_init.2.1 288 = .ok (.dup, 1) := by decide +kernel
theorem dX12_init_289 : decode mX12_init.2.1 289 = .ok (.bipush 49, 2) := by decide +kernel
theorem dX12_init_291 : decode mX12_init.2.1 291 = .ok (.bipush 97, 2) := by decide +kernel
theorem dX12_init_293 : decode mX12_init.2.1 293 = .ok (.bastore, 1) := by decide +kernel
theorem dX12_init_294 : decode mX12_init.2.1 294 = .ok (.dup, 1) := by decide +kernel
theorem dX12_init_295 : decode mX12_init.2.1 295 = .ok (.bipush 50, 2) := by decide +kernel
theorem dX12_init_297 : decode mX12_init.2.1 297 = .ok (.bipush 115, 2) := by decide +kernel
theorem dX12_init_299 : decode mX12_init.2.1 299 = .ok (.bastore, 1) := by decide +kernel
theorem dX12_init_300 : decode mX12_init.2.1 300 = .ok (.dup, 1) := by decide +kernel
theorem dX12_init_301 : decode mX12_init.2.1 301 = .ok (.bipush 51, 2) := by decide +kernel
theorem dX12_init_303 : decode mX12_init.2.1 303 = .ok (.bipush 115, 2) := by decide +kernel
theorem dX12_init_305 : decode mX12_init.2.1 305 = .ok (.bastore, 1) := by decide +kernel
theorem dX12_init_306 : decode mX12_init.2.1 306 = .ok (.dup, 1) := by decide +kernel
theorem dX12_init_307 : decode mX12_init.2.1 307 = .ok (.bipush 52, 2) := by decide +kernel
theorem dX12_init_309 : decode mX12_init.2.1 309 = .ok (.bipush 101, 2) := by decide +kernel
theorem dX12_init_311 : decode mX12_init.2.1 311 = .ok (.bastore, 1) := by decide +kernel
theorem dX12_init_312 : decode mX12_init.2.1 312 = .ok (.dup, 1) := by decide +kernel
theorem dX12_init_313 : decode mX12_init.2.1 313 = .ok (.bipush 53, 2) := by decide +kernel
theorem dX12_init_315 : decode mX12_init.2.1 315 = .ok (.bipush 115, 2) := by decide +kernel
theorem dX12_init_317 : decode mX12_init.2.1 317 = .ok (.bastore, 1) := by decide +kernel
theorem dX12_init_318 : decode mX12_init.2.1 318 = .ok (.dup, 1) := by decide +kernel
theorem dX12_init_319 : decode mX12_init.2.1 319 = .ok (.bipush 54, 2) := by decide +kernel
theorem dX12_init_321 : decode mX12_init.2.1 321 = .ok (.iconst 0, 1) := by decide +kernel
theorem dX12_init_322 : decode mX12_init.2.1 322 = .ok (.bastore, 1) := by decide +kernel
theorem dX12_init_323 : decode mX12_init.2.1 323 = .ok (.dup, 1) := by decide +kernel
theorem dX12_init_324 : decode mX12_init.2.1 324 = .ok (.bipush 55, 2) := by decide +kernel
theorem dX12_init_326 : decode mX12_init.2.1 326 = .ok (.iconst 0, 1) := by decide +kernel
theorem dX12_init_327 : decode mX12_init.2.1 327 = .ok (.bastore, 1) := by decide +kernel
theorem dX12_init_328 : decode mX12_init.2.1 328 = .ok (.dup, 1) := by decide +kernel
theorem dX12_init_329 : decode mX12_init.2.1 329 = .ok (.bipush 56, 2) := by decide +kernel
theorem dX12_init_331 : decode mX12_init.2.1 331 = .ok (.bipush 104, 2) := by decide +kernel
theorem dX12_init_333 : decode mX12_init.2.1 333 = .ok (.bastore, 1) := by decide +kernel
theorem dX12_init_334 : decode mX12_init.2.1 334 = .ok (.dup, 1) := by decide +kernel
theorem dX12_init_335 : decode mX12_init.2.1 335 = .ok (.bipush 57, 2) := by decide +kernel
theorem dX12_init_337 : decode mX12_init.2.1 337 = .ok (.bipush 97, 2) := by decide +kernel
theorem dX12_init_339 : decode mX12_init.2.1 339 = .ok (.bastore, 1) := by decide +kernel
theorem dX12_init_340 : decode mX12_init.2.1 340 = .ok (.dup, 1) := by decide +kernel
theorem dX12_init_341 : decode mX12_init.2.1 341 = .ok (.bipush 58, 2) := by decide +kernel
theorem dX12_init_343 : decode mX12_init.2.1 343 = .ok (.bipush 115, 2) := by decide +kernel
theorem dX12_init_345 : decode mX12_init.2.1 345 = .ok (.bastore, 1) := by decide +kernel
theorem dX12_init_346 : decode mX12_init.2.1 346 = .ok (.dup, 1) := by decide +kernel
theorem dX12_init_347 : decode mX12_init.2.1 347 = .ok (.bipush 59, 2) := by decide +kernel
theorem dX12_init_349 : decode mX12_init.2.1 349 = .ok (.bipush 104, 2) := by decide +kernel
theorem dX12_init_351 : decode mX12_init.2.1 351 = .ok (.bastore, 1) := by decide +kernel
theorem dX12_init_352 : decode mX12_init.2.1 352 = .ok (.dup, 1) := by decide +kernel
theorem dX12_init_353 : decode mX12_init.2.1 353 = .ok (.bipush 60, 2) := by decide +kernel
theorem dX12_init_355 : decode mX12_init.2.1 355 = .ok (.iconst 0, 1) := by decide +kernel
theorem dX12_init_356 : decode mX12_init.2.1 356 = .ok (.bastore, 1) := by decide +kernel
theorem dX12_init_357 : decode mX12_init.2.1 357 = .ok (.dup, 1) := by decide +kernel
theorem dX12_init_358 : decode mX12_init.2.1 358 = .ok (.bipush 61, 2) := by decide +kernel
theorem dX12_init_360 : decode mX12_init.2.1 360 = .ok (.iconst 0, 1) := by decide +kernel
theorem dX12_init_361 : decode mX12_init.2.1 361 = .ok (.bastore, 1) := by decide +kernel
theorem dX12_init_362 : decode mX12_init.2.1 362 = .ok (.dup, 1) := by decide +kernel
theorem dX12_init_363 : decode mX12_init.2.1 363 = .ok (.bipush 62, 2) := by decide +kernel
theorem dX12_init_365 : decode mX12_init.2.1 365 = .ok (.iconst 0, 1) := by decide +kernel
theorem dX12_init_366 : decode mX12_init.2.1 366 = .ok (.bastore, 1) := by decide +kernel
theorem dX12_init_367 : decode mX12_init.2.1 367 = .ok (.dup, 1) := by decide +kernel
theorem dX12_init_368 : decode mX12_init.2.1 368 = .ok (.bipush 63, 2) := by decide +kernel
theorem dX12_init_370 : decode mX12_init.2.1 370 = .ok (.iconst 0, 1) := by decide +kernel
theorem dX12_init_371 : decode mX12_init.2.1 371 = .ok (.bastore, 1) := by decide +kernel
theorem dX12_init_372 : decode mX12_init.2.1 372 = .ok (.dup, 1) := by decide +kernel
theorem dX12_init_373 : decode mX12_init.2.1 373 = .ok (.bipush 64, 2) := by decide +kernel
theorem dX12_init_375 : decode mX12_init.2.1 375 = .ok (.bipush 115, 2) := by decide +kernel
theorem dX12_init_377 : decode mX12_init.2.1 377 = .ok (.bastore, 1) := by decide +kernel
theorem dX12_init_378 : decode mX12_init.2.1 378 = .ok (.dup, 1) := by decide +kernel
theorem dX12_init_379 : decode mX12_init.2.1 379 = .ok (.bipush 65, 2) := by decide +kernel
theorem dX12_init_381 : decode mX12_init.2.1 381 = .ok (.bipush 97, 2) := by decide +kernel
theorem dX12_init_383 : decode mX12_init.2.1 383 = .ok (.bastore, 1) := by decide +kernel
theorem dX12_init_384 : decode mX12_init.2.1 384 = .ok (.dup, 1) := by decide +kernel
theorem dX12_init_385 : decode mX12_init.2.1 385 = .ok (.bipush 66, 2) := by decide +kernel
theorem dX12_init_387 : decode mX12_init.2.1 387 = .ok (.bipush 102, 2) := by decide +kernel
theorem dX12_init_389 : decode mX12_init.2.1 389 = .ok (.bastore, 1) := by decide +kernel
theorem dX12_init_390 : decode mX12_init.2.1 390 = .ok (.dup, 1) := by decide +kernel
theorem dX12_init_391 : decode mX12_init.2.1 391 = .ok (.bipush 67, 2) := by decide +kernel
theorem dX12_init_393 : decode mX12_init.2.1 393 = .ok (.bipush 101, 2) := by decide +kernel
theorem dX12_init_395 : decode mX12_init.2.1 395 = .ok (.bastore, 1) := by decide +kernel
theorem dX12_init_396 : decode mX12_init.2.1 396 = .ok (.dup, 1) := by decide +kernel
theorem dX12_init_397 : decode mX12_init.2.1 397 = .ok (.bipush 68, 2) := by decide +kernel
theorem dX12_init_399 : decode mX12_init.2.1 399 = .ok (.iconst 0, 1) := by decide +kernel
theorem dX12_init_400 : decode mX12_init.2.1 400 = .ok (.bastore, 1) := by decide +kernel
theorem dX12_init_401 : decode mX12_init.2.1 401 = .ok (.dup, 1) := by decide +kernel
theorem dX12_init_402 : decode mX12_init.2.1 402 = .ok (.bipush 69, 2) := by decide +kernel
theorem dX12_init_404 : decode mX12_init.2.1 404 = .ok (.iconst 0, 1) := by decide +kernel
theorem dX12_init_405 : decode mX12_init.2.1 405 = .ok (.bastore, 1) := by decide +kernel
theorem dX12_init_406 : decode mX12_init.2.1 406 = .ok (.dup, 1) := by decide +kernel
theorem dX12_init_407 : decode mX12_init.2.1 407 = .ok (.bipush 70, 2) := by decide +kernel
theorem dX12_init_409 : decode mX12_init.2.1 409 = .ok (.iconst 0, 1) := by decide +kernel
theorem dX12_init_410 : decode mX12_init.2.1 410 = .ok (.bastore, 1) := by decide +kernel
theorem dX12_init_411 : decode mX12_init.2.1 411 = .ok (.dup, 1) := by decide +kernel
theorem dX12_init_412 : decode mX12_init.2.1 412 = .ok (.bipush 71, 2) := by decide +kernel
theorem dX12_init_414 : decode mX12_init.2.1 414 = .ok (.iconst 0, 1) := by decide +kernel
theorem dX12_init_415 : decode mX12_init.2.1 415 = .ok (.bastore, 1) := by decide +kernel
theorem dX12_init_416 : decode mX12_init.2.1 416 = .ok (.putfield 13, 3) := by decide +kernel
theorem dX12_init_419 : decode mX12_init.2.1 419 = .ok (.aload_n 0, 1) := by decide +kernel
theorem dX12_init_420 : decode mX12_init.2.1 420 = .ok (.bipush 9, 2) := by decide +kernel
theorem dX12_init_422 : decode mX12_init.2.1 422 = .ok (.newarray .int, 2) := by decide +kernel
theorem dX12_init_424 : decode mX12_init.2.1 424 = .ok (.dup, 1) := by decide +kernel
theorem dX12_init_425 : decode mX12_init.2.1 425 = .ok (.iconst 0, 1) := by decide +kernel
theorem dX12_init_426 : decode mX12_init.2.1 426 = .ok (.iconst 2, 1) := by decide +kernel
theorem dX12_init_427 : decode mX12_init.2.1 427 = .ok (.iastore, 1) := by decide +kernel
theorem dX12_init_428 : decode mX12_init.2.1 428 = .ok (.dup, 1) := by decide +kernel
theorem dX12_init_429 : decode mX12_init.2.1 429 = .ok (.iconst 1, 1) := by decide +kernel
theorem dX12_init_430 : decode mX12_init.2.1 430 = .ok (.iconst 0, 1) := by decide +kernel
theorem dX12_init_431 : decode mX12_init.2.1 431 = .ok (.iastore, 1) := by decide +kernel
theorem dX12_init_432 : decode mX12_init.2.1 432 = .ok (.dup, 1) := by decide +kernel
theorem dX12_init_433 : decode mX12_init.2.1 433 = .ok (.iconst 2, 1) := by decide +kernel
theorem dX12_init_434 : decode mX12_init.2.1 434 = .ok (.iconst 0, 1) := by decide +kernel
theorem dX12_init_435 : decode mX12_init.2.1 435 = .ok (.iastore, 1) := by decide +kernel
theorem dX12_init_436 : decode mX12_init.2.1 436 = .ok (.dup, 1) := by decide +kernel
theorem dX12_init_437 : decode mX12_init.2.1 437 = .ok (.iconst 3, 1) := by decide +kernel
theorem dX12_init_438 : decode mX12_init.2.1 438 = .ok (.iconst 0, 1) := by decide +kernel
theorem dX12_init_439 : decode mX12_init.2.1 439 = .ok (.iastore, 1) := by decide +kernel
theorem dX12_init_440 : decode mX12_init.2.1 440 = .ok (.dup, 1) := by decide +kernel
theorem dX12_init_441 : decode mX12_init.2.1 441 = .ok (.iconst 4, 1) := by decide +kernel
theorem dX12_init_442 : decode mX12_init.2.1 442 = .ok (.iconst 0, 1) := by decide +kernel
theorem dX12_init_443 : decode mX12_init.2.1 443 = .ok (.iastore, 1) := by decide +kernel
theorem dX12_init_444 : decode mX12_init.2.1 444 = .ok (.dup, 1) := by decide +kernel
theorem dX12_init_445 : decode mX12_init.2.1 445 = .ok (.iconst 5, 1) := by decide +kernel
theorem dX12_init_446 : decode mX12_init.2.1 446 = .ok (.iconst 2, 1) := by decide +kernel
theorem dX12_init_447 : decode mX12_init.2.1 447 = .ok (.iastore, 1) := by decide +kernel
theorem dX12_init_448 : decode mX12_init.2.1 448 = .ok (.dup, 1) := by decide +kernel
theorem dX12_init_449 : decode mX12_init.2.1 449 = .ok (.bipush 6, 2) := by decide +kernel
theorem dX12_init_451 : decode mX12_init.2.1 451 = .ok (.iconst 1, 1) := by decide +kernel
theorem dX12_init_452 : decode mX12_init.2.1 452 = .ok (.iastore, 1) := by decide +kernel
theorem dX12_init_453 : decode mX12_init.2.1 453 = .ok (.dup, 1) := by decide +kernel
theorem dX12_init_454 : decode mX12_init.2.1 454 = .ok (.bipush 7, 2) := by decide +kernel
theorem dX12_init_456 : decode mX12_init.2.1 456 = .ok (.iconst 1, 1) := by decide +kernel
theorem dX12_init_457 : decode mX12_init.2.1 457 = .ok (.iastore, 1) := by decide +kernel
theorem dX12_init_458 : decode mX12_init.2.1 458 = .ok (.dup, 1) := by decide +kernel
theorem dX12_init_459 : decode mX12_init.2.1 459 = .ok (.bipush 8, 2) := by decide +kernel
theorem dX12_init_461 : decode mX12_init.2.1 461 = .ok (.iconst 0, 1) := by decide +kernel
theorem dX12_init_462 : decode mX12_init.2.1 462 = .ok (.iastore, 1) := by decide +kernel
theorem dX12_init_463 : decode mX12_init.2.1 463 = .ok (.putfield 16, 3) := by decide +kernel
theorem dX12_init_466 : decode mX12_init.2.1 466 = .ok (.aload_n 0, 1) := by decide +kernel
theorem dX12_init_467 : decode mX12_init.2.1 467 = .ok (.bipush 9, 2) := by decide +kernel
theorem dX12_init_469 : decode mX12_init.2.1 469 = .ok (.newarray .int, 2) := by decide +kernel
theorem dX12_init_471 : decode mX12_init.2.1 471 = .ok (.dup, 1) := by decide +kernel
theorem dX12_init_472 : decode mX12_init.2.1 472 = .ok (.iconst 0, 1) := by decide +kernel
theorem dX12_init_473 : decode mX12_init.2.1 473 = .ok (.sipush 256, 3) := by decide +kernel
theorem dX12_init_476 : decode mX12_init.2.1 476 = .ok (.iastore, 1) := by decide +kernel
theorem dX12_init_477 : decode mX12_init.2.1 477 = .ok (.dup, 1) := by decide +kernel
theorem dX12_init_478 : decode mX12_init.2.1 478 = .ok (.iconst 1, 1) := by decide +kernel
theorem dX12_init_479 : decode mX12_init.2.1 479 = .ok (.ldc 20, 2) := by decide +kernel
theorem dX12_init_481 : decode mX12_init.2.1 481 = .ok (.iastore, 1) := by decide +kernel
theorem dX12_init_482 : decode mX12_init.2.1 482 = .ok (.dup, 1) := by decide +kernel
theorem dX12_init_483 : decode mX12_init.2.1 483 = .ok (.iconst 2, 1) := by decide +kernel
theorem dX12_init_484 : decode mX12_init.2.1 484 = .ok (.sipush 500, 3) := by decide +kernel
theorem dX12_init_487 : decode mX12_init.2.1 487 = .ok (.iastore, 1) := by decide +kernel
theorem dX12_init_488 : decode mX12_init.2.1 488 = .ok (.dup, 1) := by decide +kernel
theorem dX12_init_489 : decode mX12_init.2.1 489 = .ok (.iconst 3, 1) := by decide +kernel
theorem dX12_init_490 : decode mX12_init.2.1 490 = .ok (.bipush 100, 2) := by decide +kernel
theorem dX12_init_492 : decode mX12_init.2.1 492 = .ok (.iastore, 1) := by decide +kernel
theorem dX12_init_493 : decode mX12_init.2.1 493 = .ok (.dup, 1) := by decide +kernel
theorem dX12_init_494 : decode mX12_init.2.1 494 = .ok (.iconst 4, 1) := by decide +kernel
theorem dX12_init_495 : decode mX12_init.2.1 495 = .ok (.sipush 128, 3) := by decide +kernel
theorem dX12_init_498 : decode mX12_init.2.1 498 = .ok (.iastore, 1) := by decide +kernel
theorem dX12_init_499 : decode mX12_init.2.1 499 = .ok (.dup, 1) := by decide +kernel
theorem dX12_init_500 : decode mX12_init.2.1 500 = .ok (.iconst 5, 1) := by decide +kernel
theorem dX12_init_501 : decode mX12_init.2.1 501 = .ok (.bipush 64, 2) := by decide +kernel
theorem dX12_init_503 : decode mX12_init.2.1 503 = .ok (.iastore, 1) := by decide +kernel
theorem dX12_init_504 : decode mX12_init.2.1 504 = .ok (.dup, 1) := by decide +kernel
theorem dX12_init_505 : decode mX12_init.2.1 505 = .ok (.bipush 6, 2) := by decide +kernel
theorem dX12_init_507 : decode mX12_init.2.1 507 = .ok (.bipush 6, 2) := by decide +kernel
theorem dX12_init_509 : decode mX12_init.2.1 509 = .ok (.iastore, 1) := by decide +kernel
theorem dX12_init_510 : decode mX12_init.2.1 510 = .ok (.dup, 1) := by decide +kernel
theorem dX12_init_511 : decode mX12_init.2.1 511 = .ok (.bipush 7, 2) := by decide +kernel
theorem dX12_init_513 : decode mX12_init.2.1 513 = .ok (.bipush 30, 2) := by decide +kernel
theorem dX12_init_515 : decode mX12_init.2.1 515 = .ok (.iastore, 1) := by decide +kernel
theorem dX12_init_516 : decode mX12_init.2.1 516 = .ok (.dup, 1) := by decide +kernel
theorem dX12_init_517 : decode mX12_init.2.1 517 = .ok (.bipush 8, 2) := by decide +kernel
theorem dX12_init_519 : decode mX12_init.2.1 519 = .ok (.bipush 50, 2) := by decide +kernel
theorem dX12_init_521 : decode mX12_init.2.1 521 = .ok (.iastore, 1) := by decide +kernel
theorem dX12_init_522 : decode mX12_init.2.1 522 = .ok (.putfield 21, 3) := by decide +kernel
theorem dX12_init_525 : decode mX12_init.2.1 525 = .ok (.aload_n 0, 1) := by decide +kernel
theorem dX12_init_526 : decode mX12_init.2.1 526 = .ok (.bipush 9, 2) := by decide +kernel
theorem dX12_init_528 : decode mX12_init.2.1 528 = .ok (.newarray .int, 2) := by decide +kernel
theorem dX12_init_530 : decode mX12_init.2.1 530 = .ok (.dup, 1) := by decide +kernel
theorem dX12_init_531 : decode mX12_init.2.1 531 = .ok (.iconst 0, 1) := by decide +kernel
theorem dX12_init_532 : decode mX12_init.2.1 532 = .ok (.bipush 64, 2) := by decide +kernel
theorem dX12_init_534 : decode mX12_init.2.1 534 = .ok (.iastore, 1) := by decide +kernel
theorem dX12_init_535 : decode mX12_init.2.1 535 = .ok (.dup, 1) := by decide +kernel
theorem dX12_init_536 : decode mX12_init.2.1 536 = .ok (.iconst 1, 1) := by decide +kernel
theorem dX12_init_537 : decode mX12_init.2.1 537 = .ok (.iconst 1, 1) := by decide +kernel
theorem dX12_init_538 : decode mX12_init.2.1 538 = .ok (.iastore, 1) := by decide +kernel
theorem dX12_init_539 : decode mX12_init.2.1 539 = .ok (.dup, 1) := by decide +kernel
theorem dX12_init_540 : decode mX12_init.2.1 540 = .ok (.iconst 2, 1) := by decide +kernel
theorem dX12_init_541 : decode mX12_init.2.1 541 = .ok (.bipush 30, 2) := by decide +kernel
theorem dX12_init_543 : decode mX12_init.2.1 543 = .ok (.iastore, 1) := by decide +kernel
theorem dX12_init_544 : decode mX12_init.2.1 544 = .ok (.dup, 1) := by decide +kernel
theorem dX12_init_545 : decode mX12_init.2.1 545 = .ok (.iconst 3, 1) := by decide +kernel
theorem dX12_init_546 : decode mX12_init.2.1 546 = .ok (.iconst 0, 1) := by decide +kernel
theorem dX12_init_547 : decode mX12_init.2.1 547 = .ok (.iastore, 1) := by decide +kernel
theorem dX12_init_548 : decode mX12_init.2.1 548 = .ok (.dup, 1) := by decide +kernel
theorem dX12_init_549 : decode mX12_init.2.1 549 = .ok (.iconst 4, 1) := by decide +kernel
theorem dX12_init_550 : decode mX12_init.2.1 550 = .ok (.bipush 8, 2) := by decide +kernel
theorem dX12_init_552 : decode mX12_init.2.1 552 = .ok (.iastore, 1) := by decide +kernel
theorem dX12_init_553 : decode mX12_init.2.1 553 = .ok (.dup, 1) := by decide +kernel
theorem dX12_init_554 : decode mX12_init.2.1 554 = .ok (.iconst 5, 1) := by decide +kernel
theorem dX12_init_555 : decode mX12_init.2.1 555 = .ok (.bipush 8, 2) := by decide +kernel
theorem dX12_init_557 : decode mX12_init.2.1 557 = .ok (.iastore, 1) := by decide +kernel
theorem dX12_init_558 : decode mX12_init.2.1 558 = .ok (.dup, 1) := by decide +kernel
theorem dX12_init_559 : decode mX12_init.2.1 559 = .ok (.bipush 6, 2) := by decide +kernel
theorem dX12_init_561 : decode mX12_init.2.1 561 = .ok (.iconst 4, 1) := by decide +kernel
theorem dX12_init_562 : decode mX12_init.2.1 562 = .ok (.iastore, 1) := by decide +kernel
theorem dX12_init_563 : decode mX12_init.2.1 563 = .ok (.dup, 1) := by decide +kernel
theorem dX12_init_564 : decode mX12_init.2.1 564 = .ok (.bipush 7, 2) := by decide +kernel
theorem dX12_init_566 : decode mX12_init.2.1 566 = .ok (.bipush 16, 2) := by decide +kernel
theorem dX12_init_568 : decode mX12_init.2.1 568 = .ok (.iastore, 1) := by decide +kernel
theorem dX12_init_569 : decode mX12_init.2.1 569 = .ok (.dup, 1) := by decide +kernel
theorem dX12_init_570 : decode mX12_init.2.1 570 = .ok (.bipush 8, 2) := by decide +kernel
theorem dX12_init_572 : decode mX12_init.2.1 572 = .ok (.bipush 10, 2) := by decide +kernel
theorem dX12_init_574 : decode mX12_init.2.1 574 = .ok (.iastore, 1) := by decide +kernel
theorem dX12_init_575 : decode mX12_init.2.1 575 = .ok (.putfield 24, 3) := by decide +kernel
theorem dX12_init_578 : decode mX12_init.2.1 578 = .ok (.aload_n 0, 1) := by decide +kernel
theorem dX12_init_579 : decode mX12_init.2.1 579 = .ok (.bipush 9, 2) := by decide +kernel
theorem dX12_init_581 : decode mX12_init.2.1 581 = .ok (.newarray .int, 2) := by decide +kernel
theorem dX12_init_583 : decode mX12_init.2.1 583 = .ok (.putfield 27, 3) := by decide +kernel
theorem dX12_init_586 : decode mX12_init.2.1 586 = .ok (.aload_n 0, 1) := by decide +kernel
theorem dX12_init_587 : decode mX12_init.2.1 587 = .ok (.bipush 9, 2) := by decide +kernel
theorem dX12_init_589 : decode mX12_init.2.1 589 = .ok (.newarray .int, 2) := by decide +kernel
theorem dX12_init_591 : decode mX12_init.2.1 591 = .ok (.putfield 30, 3) := by decide +kernel
theorem dX12_init_594 : decode mX12_init.2.1 594 = .ok (.aload_n 0, 1) := by decide +kernel
theorem dX12_init_595 : decode mX12_init.2.1 595 = .ok (.bipush 9, 2) := by decide +kernel
theorem dX12_init_597 : decode mX12_init.2.1 597 = .ok (.newarray .boolean, 2) := by decide +kernel
theorem dX12_init_599 : decode mX12_init.2.1 599 = .ok (.putfield 33, 3) := by decide +kernel
theorem dX12_init_602 : decode mX12_init.2.1 602 = .ok (.aload_n 0, 1) := by decide +kernel
theorem dX12_init_603 : decode mX12_init.2.1 603 = .ok (.sipush 17510, 3) := by decide +kernel
theorem dX12_init_606 : decode mX12_init.2.1 606 = .ok (.newarray .int, 2) := by decide +kernel
theorem dX12_init_608 : decode mX12_init.2.1 608 = .ok (.putfield 37, 3) := by decide +kernel
theorem dX12_init_611 : decode mX12_init.2.1 611 = .ok (.aload_n 0, 1) := by decide +kernel
theorem dX12_init_612 : decode mX12_init.2.1 612 = .ok (.sipush 17510, 3) := by decide +kernel
theorem dX12_init_615 : decode mX12_init.2.1 615 = .ok (.newarray .int, 2) := by decide +kernel
theorem dX12_init_617 : decode mX12_init.2.1 617 = .ok (.putfield 40, 3) := by decide +kernel
theorem dX12_init_620 : decode mX12_init.2.1 620 = .ok (.aload_n 0, 1) := by decide +kernel
theorem dX12_init_621 : decode mX12_init.2.1 621 = .ok (.ldc 43, 2) := by decide +kernel
theorem dX12_init_623 : decode mX12_init.2.1 623 = .ok (.newarray .int, 2) := by decide +kernel
theorem dX12_init_625 : decode mX12_init.2.1 625 = .ok (.putfield 44, 3) := by decide +kernel
theorem dX12_init_628 : decode mX12_init.2.1 628 = .ok (.aload_n 0, 1) := by decide +kernel
theorem dX12_init_629 : decode mX12_init.2.1 629 = .ok (.ldc 47, 2) := by decide +kernel
theorem dX12_init_631 : decode mX12_init.2.1 631 = .ok (.newarray .int, 2) := by decide +kernel
theorem dX12_init_633 : decode mX12_init.2.1 633 = .ok (.putfield 48, 3) := by decide +kernel
theorem dX12_init_636 : decode mX12_init.2.1 636 = .ok (.aload_n 0, 1) := by decide +kernel
theorem dX12_init_637 : decode mX12_init.2.1 637 = .ok (.iconst 2, 1) := by decide +kernel
theorem dX12_init_638 : decode mX12_init.2.1 638 = .ok (.newarray .boolean, 2) := by decide +kernel
theorem dX12_init_640 : decode mX12_init.2.1 640 = .ok (.putfield 51, 3) := by decide +kernel
theorem dX12_init_643 : decode mX12_init.2.1 643 = .ok (.aload_n 0, 1) := by decide +kernel
theorem dX12_init_644 : decode mX12_init.2.1 644 = .ok (.iconst (-1), 1) := by decide +kernel
theorem dX12_init_645 : decode mX12_init.2.1 645 = .ok (.putfield 54, 3) := by decide +kernel
theorem dX12_init_648 : decode mX12_init.2.1 648 = .ok (.aload_n 0, 1) := by decide +kernel
theorem dX12_init_649 : decode mX12_init.2.1 649 = .ok (.bipush 8, 2) := by decide +kernel
theorem dX12_init_651 : decode mX12_init.2.1 651 = .ok (.newarray .int, 2) := by decide +kernel
theorem dX12_init_653 : decode mX12_init.2.1 653 = .ok (.putfield 58, 3) := by decide +kernel
theorem dX12_init_656 : decode mX12_init.2.1 656 = .ok (.aload_n 0, 1) := by decide +kernel
theorem dX12_init_657 : decode mX12_init.2.1 657 = .ok (.sipush 2048, 3) := by decide +kernel
theorem dX12_init_660 : decode mX12_init.2.1 660 = .ok (.newarray .int, 2) := by decide +kernel
theorem dX12_init_662 : decode mX12_init.2.1 662 = .ok (.putfield 61, 3) := by decide +kernel
theorem dX12_init_665 : decode mX12_init.2.1 665 = .ok (.aload_n 0, 1) := by decide +kernel
theorem dX12_init_666 : decode mX12_init.2.1 666 = .ok (.sipush 256, 3) := by decide +kernel
theorem dX12_init_669 : decode mX12_init.2.1 669 = .ok (.newarray .boolean, 2) := by decide +kernel
theorem dX12_init_671 : decode mX12_init.2.1 671 = .ok (.putfield 64, 3) := by decide +kernel
theorem dX12_init_674 : decode mX12_init.2.1 674 = .ok (.aload_n 0, 1) := by decide +kernel
theorem dX12_init_675 : decode mX12_init.2.1 675 = .ok (.invokevirtual 67, 3) := by decide +kernel
theorem dX12_init_678 : decode mX12_init.2.1 678 = .ok (.iconst 0, 1) := by decide +kernel
theorem dX12_init_679 : decode mX12_init.2.1 679 = .ok (.istore_n 1, 1) := by decide +kernel
theorem dX12_init_680 : decode mX12_init.2.1 680 = .ok (.iload_n 1, 1) := by decide +kernel
theorem dX12_init_681 : decode mX12_init.2.1 681 = .ok (.bipush 9, 2) := by decide +kernel
theorem dX12_init_683 : decode mX12_init.2.1 683 = .ok (.if_icmp .ge 21, 3) := by decide +kernel
theorem dX12_init_686 : decode mX12_init.2.1 686 = .ok (.aload_n 0, 1) := by decide +kernel
theorem dX12_init_687 : decode mX12_init.2.1 687 = .ok (.getfield 27, 3) := by decide +kernel
theorem dX12_init_690 : decode mX12_init.2.1 690 = .ok (.iload_n 1, 1) := by decide +kernel
theorem dX12_init_691 : decode mX12_init.2.1 691 = .ok (.aload_n 0, 1) := by decide +kernel
theorem dX12_init_692 : decode mX12_init.2.1 692 = .ok (.getfield 30, 3) := by decide +kernel
theorem dX12_init_695 : decode mX12_init.2.1 695 = .ok (.iload_n 1, 1) := by decide +kernel
theorem dX12_init_696 : decode mX12_init.2.1 696 = .ok (.iaload, 1) := by decide +kernel
theorem dX12_init_697 : decode mX12_init.2.1 697 = .ok (.iastore, 1) := by decide +kernel
theorem dX12_init_698 : decode mX12_init.2.1 698 = .ok (.iinc 1 1, 3) := by decide +kernel
theorem dX12_init_701 : decode mX12_init.2.1 701 = .ok (.goto (-21), 3) := by decide +kernel
theorem dX12_init_704 : decode mX12_init.2.1 704 = .ok (.aload_n 0, 1) := by decide +kernel
theorem dX12_init_705 : decode mX12_init.2.1 705 = .ok (.invokevirtual 70, 3) := by decide +kernel
theorem dX12_init_708 : decode mX12_init.2.1 708 = .ok (.return_, 1) := by decide +kernel
theorem dX12_isDigit_0 : decode mX12_isDigit.2.1 0 = .ok (.iload_n 0, 1) := by decide +kernel
theorem dX12_isDigit_1 : decode mX12_isDigit.2.1 1 = .ok (.bipush 48, 2) := by decide +kernel
theorem dX12_isDigit_3 : decode mX12_isDigit.2.1 3 = .ok (.if_icmp .lt 13, 3) := by decide +kernel
theorem dX12_isDigit_6 : decode mX12_isDigit.2.1 6 = .ok (.iload_n 0, 1) := by decide +kernel
theorem dX12_isDigit_7 : decode mX12_isDigit.2.1 7 = .ok (.bipush 57, 2) := by decide +kernel
theorem dX12_isDigit_9 : decode mX12_isDigit.2.1 9 = .ok (.if_icmp .gt 7, 3) := by decide +kernel
theorem dX12_isDigit_12 : decode mX12_isDigit.2.1 12 = .ok (.iconst 1, 1) := by decide +kernel
theorem dX12_isDigit_13 : decode mX12_isDigit.2.1 13 = .ok (.goto 4, 3) := by decide +kernel
theorem dX12_isDigit_16 : decode mX12_isDigit.2.1 16 = .ok (.iconst 0, 1) := by decide +kernel
theorem dX12_isDigit_17 : decode mX12_isDigit.2.1 17 = .ok (.ireturn, 1) := by decide +kernel
theorem dX12_isFixed_0 : decode mX12_isFixed.2.1 0 = .ok (.aload_n 0, 1) := by decide +kernel
theorem dX12_isFixed_1 : decode mX12_isFixed.2.1 1 = .ok (.iload_n 1, 1) := by decide +kernel
theorem dX12_isFixed_2 : decode mX12_isFixed.2.1 2 = .ok (.invokevirtual 290, 3) := by decide +kernel
theorem dX12_isFixed_5 : decode mX12_isFixed.2.1 5 = .ok (.aload_n 0, 1) := by decide +kernel
theorem dX12_isFixed_6 : decode mX12_isFixed.2.1 6 = .ok (.invokevirtual 278, 3) := by decide +kernel
theorem dX12_isFixed_9 : decode mX12_isFixed.2.1 9 = .ok (.ifCond .ne 7, 3) := by decide +kernel
theorem dX12_isFixed_12 : decode mX12_isFixed.2.1 12 = .ok (.iconst 1, 1) := by decide +kernel
theorem dX12_isFixed_13 : decode mX12_isFixed.2.1 13 = .ok (.goto 4, 3) := by decide +kernel
theorem dX12_isFixed_16 : decode mX12_isFixed.2.1 16 = .ok (.iconst 0, 1) := by decide +kernel
theorem dX12_isFixed_17 : decode mX12_isFixed.2.1 17 = .ok (.ireturn, 1) := by decide +kernel
theorem dX12_isGoodBy_0 : decode mX12_isGoodBy.2.1 0 = .ok (.iconst 0, 1) := by decide +kernel
theorem dX12_isGoodBy_1 : decode mX12_isGoodBy.2.1 1 = .ok (.istore_n 2, 1) := by decide +kernel
theorem dX12_isGoodBy_2 : decode mX12_isGoodBy.2.1 2 = .ok (.iload_n 2, 1) := by decide +kernel
theorem dX12_isGoodBy_3 : decode mX12_isGoodBy.2.1 3 = .ok (.iload_n 1, 1) := by decide +kernel
theorem dX12_isGoodBy_4 : decode mX12_isGoodBy.2.1 4 = .ok (.if_icmp .ge 33, 3) := by decide +kernel
theorem dX12_isGoodBy_7 : decode mX12_isGoodBy.2.1 7 = .ok (.aload_n 0, 1) := by decide +kernel
theorem dX12_isGoodBy_8 : decode mX12_isGoodBy.2.1 8 = .ok (.aload_n 0, 1) := by decide +kernel
theorem dX12_isGoodBy_9 : decode mX12_isGoodBy.2.1 9 = .ok (.getfield 27, 3) := by decide +kernel
theorem dX12_isGoodBy_12 : decode mX12_isGoodBy.2.1 12 = .ok (.iconst 1, 1) := by decide +kernel
theorem dX12_isGoodBy_13 : decode mX12_isGoodBy.2.1 13 = .ok (.iaload, 1) := by decide +kernel
theorem dX12_isGoodBy_14 : decode mX12_isGoodBy.2.1 14 = .ok (.iload_n 2, 1) := by decide +kernel
theorem dX12_isGoodBy_15 : decode mX12_isGoodBy.2.1 15 = .ok (.iadd, 1) := by decide +kernel
theorem dX12_isGoodBy_16 : decode mX12_isGoodBy.2.1 16 = .ok (.invokevirtual 316, 3) := by decide +kernel
theorem dX12_isGoodBy_19 : decode mX12_isGoodBy.2.1 19 = .ok (.ifCond .eq 10, 3) := by decide +kernel
theorem dX12_isGoodBy_22 : decode mX12_isGoodBy.2.1 22 = .ok (.aload_n 0, 1) := by decide +kernel
theorem dX12_isGoodBy_23 : decode mX12_isGoodBy.2.1 23 = .ok (.invokevirtual 319, 3) := by decide +kernel
theorem dX12_isGoodBy_26 : decode mX12_isGoodBy.2.1 26 = .ok (.ifCond .ne 5, 3) := by decide +kernel
theorem dX12_isGoodBy_29 : decode mX12_isGoodBy.2.1 29 = .ok (.iconst 0, 1) := by decide +kernel
theorem dX12_isGoodBy_30 : decode mX12_isGoodBy.2.1 30 = .ok (.ireturn, 1) := by decide +kernel
theorem dX12_isGoodBy_31 : decode mX12_isGoodBy.2.1 31 = .ok (.iinc 2 1, 3) := by decide +kernel
theorem dX12_isGoodBy_34 : decode mX12_isGoodBy.2.1 34 = .ok (.goto (-32), 3) := by decide +kernel
theorem dX12_isGoodBy_37 : decode mX12_isGoodBy.2.1 37 = .ok (.iconst 1, 1) := by decide +kernel
theorem dX12_isGoodBy_38 : decode mX12_isGoodBy.2.1 38 = .ok (.ireturn, 1) := by decide +kernel
theorem dX12_isIn_0 : decode mX12_isIn.2.1 0 = .ok (.aload_n 0, 1) := by decide +kernel
theorem dX12_isIn_1 : decode mX12_isIn.2.1 1 = .ok (.iload_n 1, 1) := by decide +kernel
theorem dX12_isIn_2 : decode mX12_isIn.2.1 2 = .ok (.invokevirtual 263, 3) := by decide +kernel
theorem dX12_isIn_5 : decode mX12_isIn.2.1 5 = .ok (.ifCond .eq 11, 3) := by decide +kernel
theorem dX12_isIn_8 : decode mX12_isIn.2.1 8 = .ok (.aload_n 0, 1) := by decide +kernel
theorem dX12_isIn_9 : decode mX12_isIn.2.1 9 = .ok (.iload_n 2, 1) := by decide +kernel
theorem dX12_isIn_10 : decode mX12_isIn.2.1 10 = .ok (.invokevirtual 232, 3) := by decide +kernel
theorem dX12_isIn_13 : decode mX12_isIn.2.1 13 = .ok (.ifCond .ne 5, 3) := by decide +kernel
theorem dX12_isIn_16 : decode mX12_isIn.2.1 16 = .ok (.iconst (-1), 1) := by decide +kernel
theorem dX12_isIn_17 : decode mX12_isIn.2.1 17 = .ok (.ireturn, 1) := by decide +kernel
theorem dX12_isIn_18 : decode mX12_isIn.2.1 18 = .ok (.aload_n 0, 1) := by decide +kernel
theorem dX12_isIn_19 : decode mX12_isIn.2.1 19 = .ok (.iload_n 1, 1) := by decide +kernel
theorem dX12_isIn_20 : decode mX12_isIn.2.1 20 = .ok (.invokevirtual 266, 3) := by decide +kernel
theorem dX12_isIn_23 : decode mX12_isIn.2.1 23 = .ok (.aload_n 0, 1) := by decide +kernel
theorem dX12_isIn_24 : decode mX12_isIn.2.1 24 = .ok (.iload_n 2, 1) := by decide +kernel
theorem dX12_isIn_25 : decode mX12_isIn.2.1 25 = .ok (.invokevirtual 260, 3) := by decide +kernel
theorem dX12_isIn_28 : decode mX12_isIn.2.1 28 = .ok (.ifCond .eq 7, 3) := by decide +kernel
theorem dX12_isIn_31 : decode mX12_isIn.2.1 31 = .ok (.iconst 1, 1) := by decide +kernel
theorem dX12_isIn_32 : decode mX12_isIn.2.1 32 = .ok (.goto 4, 3) := by decide +kernel
theorem dX12_isIn_35 : decode mX12_isIn.2.1 35 = .ok (.iconst 0, 1) := by decide +kernel
theorem dX12_isIn_36 : decode mX12_isIn.2.1 36 = .ok (.ireturn, 1) := by decide +kernel
theorem dX12_isIn1_0 : decode mX12_isIn1.2.1 0 = .ok (.lload_n 0, 1) := by decide +kernel
theorem dX12_isIn1_1 : decode mX12_isIn1.2.1 1 = .ok (.lload_n 2, 1) := by decide +kernel
theorem dX12_isIn1_2 : decode mX12_isIn1.2.1 2 = .ok (.lcmp, 1) := by decide +kernel
theorem dX12_isIn1_3 : decode mX12_isIn1.2.1 3 = .ok (.ifCond .lt 14, 3) := by decide +kernel
theorem dX12_isIn1_6 : decode mX12_isIn1.2.1 6 = .ok (.lload_n 0, 1) := by decide +kernel
theorem dX12_isIn1_7 : decode mX12_isIn1.2.1 7 = .ok (.lload 4, 2) := by decide +kernel
theorem dX12_isIn1_9 : decode mX12_isIn1.2.1 9 = .ok (.lcmp, 1) := by decide +kernel
theorem dX12_isIn1_10 : decode mX12_isIn1.2.1 10 = .ok (.ifCond .gt 7, 3) := by decide +kernel
theorem dX12_isIn1_13 : decode mX12_isIn1.2.1 13 = .ok (.iconst 1, 1) := by decide +kernel
theorem dX12_isIn1_14 : decode mX12_isIn1.2.1 14 = .ok (.goto 4, 3) := by decide +kernel
theorem dX12_isIn1_17 : decode mX12_isIn1.2.1 17 = .ok (.iconst 0, 1) := by decide +kernel
theorem dX12_isIn1_18 : decode mX12_isIn1.2.1 18 = .ok (.ireturn, 1) := by decide +kernel
theorem dX12_isInSet_0 : decode mX12_isInSet.2.1 0 = .ok (.aload_n 0, 1) := by decide +kernel
theorem dX12_isInSet_1 : decode mX12_isInSet.2.1 1 = .ok (.getfield 58, 3) := by decide +kernel
theorem dX12_isInSet_4 : decode mX12_isInSet.2.1 4 = .ok (.iload_n 1, 1) := by decide +kernel
theorem dX12_isInSet_5 : decode mX12_isInSet.2.1 5 = .ok (.bipush 32, 2) := by decide +kernel
theorem dX12_isInSet_7 : decode mX12_isInSet.2.1 7 = .ok (.idiv, 1) := by decide +kernel
theorem dX12_isInSet_8 : decode mX12_isInSet.2.1 8 = .ok (.iaload, 1) := by decide +kernel
theorem dX12_isInSet_9 : decode mX12_isInSet.2.1 9 = .ok (.iload_n 1, 1) := by decide +kernel
theorem dX12_isInSet_10 : decode mX12_isInSet.2.1 10 = .ok (.bipush 32, 2) := by decide +kernel
theorem dX12_isInSet_12 : decode mX12_isInSet.2.1 12 = .ok (.irem, 1) := by decide +kernel
theorem dX12_isInSet_13 : decode mX12_isInSet.2.1 13 = .ok (.ishr, 1) := by decide +kernel
theorem dX12_isInSet_14 : decode mX12_isInSet.2.1 14 = .ok (.iconst 1, 1) := by decide +kernel
theorem dX12_isInSet_15 : decode mX12_isInSet.2.1 15 = .ok (.iand, 1) := by decide +kernel
theorem dX12_isInSet_16 : decode mX12_isInSet.2.1 16 = .ok (.iconst 1, 1) := by decide +kernel
theorem dX12_isInSet_17 : decode mX12_isInSet.2.1 17 = .ok (.if_icmp .ne 7, 3) := by decide +kernel
theorem dX12_isInSet_20 : decode mX12_isInSet.2.1 20 = .ok (.iconst 1, 1) := by decide +kernel
theorem dX12_isInSet_21 : decode mX12_isInSet.2.1 21 = .ok (.goto 4, 3) := by decide +kernel
theorem dX12_isInSet_24 : decode mX12_isInSet.2.1 24 = .ok (.iconst 0, 1) := by decide +kernel
theorem dX12_isInSet_25 : decode mX12_isInSet.2.1 25 = .ok (.ireturn, 1) := by decide +kernel
theorem dX12_isLetter_0 : decode mX12_isLetter.2.1 0 = .ok (.iload_n 0, 1) := by decide +kernel
theorem dX12_isLetter_1 : decode mX12_isLetter.2.1 1 = .ok (.bipush 97, 2) := by decide +kernel
theorem dX12_isLetter_3 : decode mX12_isLetter.2.1 3 = .ok (.if_icmp .lt 13, 3) := by decide +kernel
theorem dX12_isLetter_6 : decode mX12_isLetter.2.1 6 = .ok (.iload_n 0, 1) := by decide +kernel
theorem dX12_isLetter_7 : decode mX12_isLetter.2.1 7 = .ok (.bipush 122, 2) := by decide +kernel
theorem dX12_isLetter_9 : decode mX12_isLetter.2.1 9 = .ok (.if_icmp .gt 7, 3) := by decide +kernel
theorem dX12_isLetter_12 : decode mX12_isLetter.2.1 12 = .ok (.iconst 1, 1) := by decide +kernel
theorem dX12_isLetter_13 : decode mX12_isLetter.2.1 13 = .ok (.goto 4, 3) := by decide +kernel
theorem dX12_isLetter_16 : decode mX12_isLetter.2.1 16 = .ok (.iconst 0, 1) := by decide +kernel
theorem dX12_isLetter_17 : decode mX12_isLetter.2.1 17 = .ok (.ireturn, 1) := by decide +kernel
theorem dX12_isMending_0 : decode mX12_isMending.2.1 0 = .ok (.aload_n 0, 1) := by decide +kernel
theorem dX12_isMending_1 : decode mX12_isMending.2.1 1 = .ok (.getfield 37, 3) := by decide +kernel
theorem dX12_isMending_4 : decode mX12_isMending.2.1 4 = .ok (.iconst 0, 1) := by decide +kernel
theorem dX12_isMending_5 : decode mX12_isMending.2.1 5 = .ok (.iaload, 1) := by decide +kernel
theorem dX12_isMending_6 : decode mX12_isMending.2.1 6 = .ok (.iconst 2, 1) := by decide +kernel
theorem dX12_isMending_7 : decode mX12_isMending.2.1 7 = .ok (.if_icmp .eq 13, 3) := by decide +kernel
theorem dX12_isMending_10 : decode mX12_isMending.2.1 10 = .ok (.aload_n 0, 1) := by decide +kernel
theorem dX12_isMending_11 : decode mX12_isMending.2.1 11 = .ok (.getfield 37, 3) := by decide +kernel
theorem dX12_isMending_14 : decode mX12_isMending.2.1 14 = .ok (.iconst 0, 1) := by decide +kernel
theorem dX12_isMending_15 : decode mX12_isMending.2.1 15 = .ok (.iaload, 1) := by decide +kernel
theorem dX12_isMending_16 : decode mX12_isMending.2.1 16 = .ok (.iconst 3, 1) := by decide +kernel
theorem dX12_isMending_17 : decode mX12_isMending.2.1 17 = .ok (.if_icmp .ne 7, 3) := by decide +kernel
theorem dX12_isMending_20 : decode mX12_isMending.2.1 20 = .ok (.iconst 1, 1) := by decide +kernel
theorem dX12_isMending_21 : decode mX12_isMending.2.1 21 = .ok (.goto 4, 3) := by decide +kernel
theorem dX12_isMending_24 : decode mX12_isMending.2.1 24 = .ok (.iconst 0, 1) := by decide +kernel
theorem dX12_isMending_25 : decode mX12_isMending.2.1 25 = .ok (.ireturn, 1) := by decide +kernel
theorem dX12_isPass_0 : decode mX12_isPass.2.1 0 = .ok (.iload_n 1, 1) := by decide +kernel
theorem dX12_isPass_1 : decode mX12_isPass.2.1 1 = .ok (.ifCond .lt 17, 3) := by decide +kernel
theorem dX12_isPass_4 : decode mX12_isPass.2.1 4 = .ok (.iload_n 1, 1) := by decide +kernel
theorem dX12_isPass_5 : decode mX12_isPass.2.1 5 = .ok (.aload_n 0, 1) := by decide +kernel
theorem dX12_isPass_6 : decode mX12_isPass.2.1 6 = .ok (.getfield 37, 3) := by decide +kernel
theorem dX12_isPass_9 : decode mX12_isPass.2.1 9 = .ok (.iconst 2, 1) := by decide +kernel
theorem dX12_isPass_10 : decode mX12_isPass.2.1 10 = .ok (.iaload, 1) := by decide +kernel
theorem dX12_isPass_11 : decode mX12_isPass.2.1 11 = .ok (.if_icmp .ge 7, 3) := by decide +kernel
theorem dX12_isPass_14 : decode mX12_isPass.2.1 14 = .ok (.iconst 1, 1) := by decide +kernel
theorem dX12_isPass_15 : decode mX12_isPass.2.1 15 = .ok (.goto 4, 3) := by decide +kernel
theorem dX12_isPass_18 : decode mX12_isPass.2.1 18 = .ok (.iconst 0, 1) := by decide +kernel
theorem dX12_isPass_19 : decode mX12_isPass.2.1 19 = .ok (.ireturn, 1) := by decide +kernel
theorem dX12_isPlace_0 : decode mX12_isPlace.2.1 0 = .ok (.iload_n 1, 1) := by decide +kernel
theorem dX12_isPlace_1 : decode mX12_isPlace.2.1 1 = .ok (.ifCond .lt 17, 3) := by decide +kernel
theorem dX12_isPlace_4 : decode mX12_isPlace.2.1 4 = .ok (.iload_n 1, 1) := by decide +kernel
theorem dX12_isPlace_5 : decode mX12_isPlace.2.1 5 = .ok (.aload_n 0, 1) := by decide +kernel
theorem dX12_isPlace_6 : decode mX12_isPlace.2.1 6 = .ok (.getfield 37, 3) := by decide +kernel
theorem dX12_isPlace_9 : decode mX12_isPlace.2.1 9 = .ok (.iconst 1, 1) := by decide +kernel
theorem dX12_isPlace_10 : decode mX12_isPlace.2.1 10 = .ok (.iaload, 1) := by decide +kernel
theorem dX12_isPlace_11 : decode mX12_isPlace.2.1 11 = .ok (.if_icmp .ge 7, 3) := by decide +kernel
theorem dX12_isPlace_14 : decode mX12_isPlace.2.1 14 = .ok (.iconst 1, 1) := by decide +kernel
theorem dX12_isPlace_15 : decode mX12_isPlace.2.1 15 = .ok (.goto 4, 3) := by decide +kernel
theorem dX12_isPlace_18 : decode mX12_isPlace.2.1 18 = .ok (.iconst 0, 1) := by decide +kernel
theorem dX12_isPlace_19 : decode mX12_isPlace.2.1 19 = .ok (.ireturn, 1) := by decide +kernel
theorem dX12_isSifted_0 : decode mX12_isSifted.2.1 0 = .ok (.aload_n 0, 1) := by decide +kernel
theorem dX12_isSifted_1 : decode mX12_isSifted.2.1 1 = .ok (.iload_n 1, 1) := by decide +kernel
theorem dX12_isSifted_2 : decode mX12_isSifted.2.1 2 = .ok (.iconst 1, 1) := by decide +kernel
theorem dX12_isSifted_3 : decode mX12_isSifted.2.1 3 = .ok (.invokevirtual 138, 3) := by decide +kernel
theorem dX12_isSifted_6 : decode mX12_isSifted.2.1 6 = .ok (.aload_n 0, 1) := by decide +kernel
theorem dX12_isSifted_7 : decode mX12_isSifted.2.1 7 = .ok (.iload_n 1, 1) := by decide +kernel
theorem dX12_isSifted_8 : decode mX12_isSifted.2.1 8 = .ok (.iconst 2, 1) := by decide +kernel
theorem dX12_isSifted_9 : decode mX12_isSifted.2.1 9 = .ok (.invokevirtual 138, 3) := by decide +kernel
theorem dX12_isSifted_12 : decode mX12_isSifted.2.1 12 = .ok (.if_icmp .ne 7, 3) := by decide +kernel
theorem dX12_isSifted_15 : decode mX12_isSifted.2.1 15 = .ok (.iconst 1, 1) := by decide +kernel
theorem dX12_isSifted_16 : decode mX12_isSifted.2.1 16 = .ok (.goto 4, 3) := by decide +kernel
theorem dX12_isSifted_19 : decode mX12_isSifted.2.1 19 = .ok (.iconst 0, 1) := by decide +kernel
theorem dX12_isSifted_20 : decode mX12_isSifted.2.1 20 = .ok (.ireturn, 1) := by decide +kernel
theorem dX12_isSpied_0 : decode mX12_isSpied.2.1 0 = .ok (.aload_n 0, 1) := by decide +kernel
theorem dX12_isSpied_1 : decode mX12_isSpied.2.1 1 = .ok (.getfield 37, 3) := by decide +kernel
theorem dX12_isSpied_4 : decode mX12_isSpied.2.1 4 = .ok (.sipush 788, 3) := by decide +kernel
theorem dX12_isSpied_7 : decode mX12_isSpied.2.1 7 = .ok (.iload_n 1, 1) := by decide +kernel
theorem dX12_isSpied_8 : decode mX12_isSpied.2.1 8 = .ok (.iadd, 1) := by decide +kernel
theorem dX12_isSpied_9 : decode mX12_isSpied.2.1 9 = .ok (.iaload, 1) := by decide +kernel
theorem dX12_isSpied_10 : decode mX12_isSpied.2.1 10 = .ok (.istore_n 2, 1) := by decide +kernel
theorem dX12_isSpied_11 : decode mX12_isSpied.2.1 11 = .ok (.aload_n 0, 1) := by decide +kernel
theorem dX12_isSpied_12 : decode mX12_isSpied.2.1 12 = .ok (.iload_n 2, 1) := by decide +kernel
theorem dX12_isSpied_13 : decode mX12_isSpied.2.1 13 = .ok (.iconst 4, 1) := by decide +kernel
theorem dX12_isSpied_14 : decode mX12_isSpied.2.1 14 = .ok (.invokevirtual 138, 3) := by decide +kernel
theorem dX12_isSpied_17 : decode mX12_isSpied.2.1 17 = .ok (.iconst 1, 1) := by decide +kernel
theorem dX12_isSpied_18 : decode mX12_isSpied.2.1 18 = .ok (.if_icmp .ne 22, 3) := by decide +kernel
theorem dX12_isSpied_21 : decode mX12_isSpied.2.1 21 = .ok (.aload_n 0, 1) := by decide +kernel
theorem dX12_isSpied_22 : decode mX12_isSpied.2.1 22 = .ok (.iload_n 2, 1) := by decide +kernel
theorem dX12_isSpied_23 : decode mX12_isSpied.2.1 23 = .ok (.iconst 5, 1) := by decide +kernel
theorem dX12_isSpied_24 : decode mX12_isSpied.2.1 24 = .ok (.invokevirtual 138, 3) := by decide +kernel
theorem dX12_isSpied_27 : decode mX12_isSpied.2.1 27 = .ok (.aload_n 0, 1) := by decide +kernel
theorem dX12_isSpied_28 : decode mX12_isSpied.2.1 28 = .ok (.iload_n 2, 1) := by decide +kernel
theorem dX12_isSpied_29 : decode mX12_isSpied.2.1 29 = .ok (.iconst 1, 1) := by decide +kernel
theorem dX12_isSpied_30 : decode mX12_isSpied.2.1 30 = .ok (.invokevirtual 138, 3) := by decide +kernel
theorem dX12_isSpied_33 : decode mX12_isSpied.2.1 33 = .ok (.if_icmp .ne 7, 3) := by decide +kernel
theorem dX12_isSpied_36 : decode mX12_isSpied.2.1 36 = .ok (.iconst 1, 1) := by decide +kernel
theorem dX12_isSpied_37 : decode mX12_isSpied.2.1 37 = .ok (.goto 4, 3) := by decide +kernel
theorem dX12_isSpied_40 : decode mX12_isSpied.2.1 40 = .ok (.iconst 0, 1) := by decide +kernel
theorem dX12_isSpied_41 : decode mX12_isSpied.2.1 41 = .ok (.ireturn, 1) := by decide +kernel
theorem dX12_isTold_0 : decode mX12_isTold.2.1 0 = .ok (.iload_n 1, 1) := by decide +kernel
theorem dX12_isTold_1 : decode mX12_isTold.2.1 1 = .ok (.ifCond .lt 17, 3) := by decide +kernel
theorem dX12_isTold_4 : decode mX12_isTold.2.1 4 = .ok (.iload_n 1, 1) := by decide +kernel
theorem dX12_isTold_5 : decode mX12_isTold.2.1 5 = .ok (.aload_n 0, 1) := by decide +kernel
theorem dX12_isTold_6 : decode mX12_isTold.2.1 6 = .ok (.getfield 37, 3) := by decide +kernel
theorem dX12_isTold_9 : decode mX12_isTold.2.1 9 = .ok (.iconst 3, 1) := by decide +kernel
theorem dX12_isTold_10 : decode mX12_isTold.2.1 10 = .ok (.iaload, 1) := by decide +kernel
theorem dX12_isTold_11 : decode mX12_isTold.2.1 11 = .ok (.if_icmp .ge 7, 3) := by decide +kernel
theorem dX12_isTold_14 : decode mX12_isTold.2.1 14 = .ok (.iconst 1, 1) := by decide +kernel
theorem dX12_isTold_15 : decode mX12_isTold.2.1 15 = .ok (.goto 4, 3) := by decide +kernel
theorem dX12_isTold_18 : decode mX12_isTold.2.1 18 = .ok (.iconst 0, 1) := by decide +kernel
theorem dX12_isTold_19 : decode mX12_isTold.2.1 19 = .ok (.ireturn, 1) := by decide +kernel
theorem dX12_isUnlike_0 : decode mX12_isUnlike.2.1 0 = .ok (.aload_n 0, 1) := by decide +kernel
theorem dX12_isUnlike_1 : decode mX12_isUnlike.2.1 1 = .ok (.sipush 276, 3) := by decide +kernel
theorem dX12_isUnlike_4 : decode mX12_isUnlike.2.1 4 = .ok (.iload_n 1, 1) := by decide +kernel
theorem dX12_isUnlike_5 : decode mX12_isUnlike.2.1 5 = .ok (.iload_n 2, 1) := by decide +kernel
theorem dX12_isUnlike_6 : decode mX12_isUnlike.2.1 6 = .ok (.iload_n 3, 1) := by decide +kernel
theorem dX12_isUnlike_7 : decode mX12_isUnlike.2.1 7 = .ok (.invokevirtual 161, 3) := by decide +kernel
theorem dX12_isUnlike_10 : decode mX12_isUnlike.2.1 10 = .ok (.aload_n 0, 1) := by decide +kernel
theorem dX12_isUnlike_11 : decode mX12_isUnlike.2.1 11 = .ok (.sipush 532, 3) := by decide +kernel
theorem dX12_isUnlike_14 : decode mX12_isUnlike.2.1 14 = .ok (.iload_n 1, 1) := by decide +kernel
theorem dX12_isUnlike_15 : decode mX12_isUnlike.2.1 15 = .ok (.iload_n 2, 1) := by decide +kernel
theorem dX12_isUnlike_16 : decode mX12_isUnlike.2.1 16 = .ok (.iload_n 3, 1) := by decide +kernel
theorem dX12_isUnlike_17 : decode mX12_isUnlike.2.1 17 = .ok (.invokevirtual 161, 3) := by decide +kernel
theorem dX12_isUnlike_20 : decode mX12_isUnlike.2.1 20 = .ok (.if_icmp .eq 7, 3) := by decide +kernel
theorem dX12_isUnlike_23 : decode mX12_isUnlike.2.1 23 = .ok (.iconst 1, 1) := by decide +kernel
theorem dX12_isUnlike_24 : decode mX12_isUnlike.2.1 24 = .ok (.goto 4, 3) := by decide +kernel
theorem dX12_isUnlike_27 : decode mX12_isUnlike.2.1 27 = .ok (.iconst 0, 1) := by decide +kernel
theorem dX12_isUnlike_28 : decode mX12_isUnlike.2.1 28 = .ok (.ireturn, 1) := by decide +kernel
theorem dX12_keepsAct_0 : decode mX12_keepsAct.2.1 0 = .ok (.aload_n 0, 1) := by decide +kernel
theorem dX12_keepsAct_1 : decode mX12_keepsAct.2.1 1 = .ok (.getfield 118, 3) := by decide +kernel
theorem dX12_keepsAct_4 : decode mX12_keepsAct.2.1 4 = .ok (.bipush 12, 2) := by decide +kernel
theorem dX12_keepsAct_6 : decode mX12_keepsAct.2.1 6 = .ok (.if_icmp .ne 50, 3) := by decide +kernel
theorem dX12_keepsAct_9 : decode mX12_keepsAct.2.1 9 = .ok (.iconst 1, 1) := by decide +kernel
theorem dX12_keepsAct_10 : decode mX12_keepsAct.2.1 10 = .ok (.istore_n 1, 1) := by decide +kernel
theorem dX12_keepsAct_11 : decode mX12_keepsAct.2.1 11 = .ok (.iload_n 1, 1) := by decide +kernel
theorem dX12_keepsAct_12 : decode mX12_keepsAct.2.1 12 = .ok (.bipush 12, 2) := by decide +kernel
theorem dX12_keepsAct_14 : decode mX12_keepsAct.2.1 14 = .ok (.if_icmp .ge 32, 3) := by decide +kernel
theorem dX12_keepsAct_17 : decode mX12_keepsAct.2.1 17 = .ok (.aload_n 0, 1) := by decide +kernel
theorem dX12_keepsAct_18 : decode mX12_keepsAct.2.1 18 = .ok (.getfield 44, 3) := by decide +kernel
theorem dX12_keepsAct_21 : decode mX12_keepsAct.2.1 21 = .ok (.sipush 17510, 3) := by decide +kernel
theorem dX12_keepsAct_24 : decode mX12_keepsAct.2.1 24 = .ok (.iload_n 1, 1) := by decide +kernel
theorem dX12_keepsAct_25 : decode mX12_keepsAct.2.1 25 = .ok (.imul, 1) := by decide +kernel
theorem dX12_keepsAct_26 : decode mX12_keepsAct.2.1 26 = .ok (.aload_n 0, 1) := by decide +kernel
theorem dX12_keepsAct_27 : decode mX12_keepsAct.2.1 27 = .ok (.getfield 44, 3) := by decide +kernel
theorem dX12_keepsAct_30 : decode mX12_keepsAct.2.1 30 = .ok (.sipush 17510, 3) := by decide +kernel
theorem dX12_keepsAct_33 : decode mX12_keepsAct.2.1 33 = .ok (.iload_n 1, 1) := by decide +kernel
theorem dX12_keepsAct_34 : decode mX12_keepsAct.2.1 34 = .ok (.iconst 1, 1) := by decide +kernel
theorem dX12_keepsAct_35 : decode mX12_keepsAct.2.1 35 = .ok (.isub, 1) := by decide +kernel
theorem dX12_keepsAct_36 : decode mX12_keepsAct.2.1 36 = .ok (.imul, 1) := by decide +kernel
theorem dX12_keepsAct_37 : decode mX12_keepsAct.2.1 37 = .ok (.invokestatic 123, 3) := by decide +kernel
theorem dX12_keepsAct_40 : decode mX12_keepsAct.2.1 40 = .ok (.iinc 1 1, 3) := by decide +kernel
theorem dX12_keepsAct_43 : decode mX12_keepsAct.2.1 43 = .ok (.goto (-32), 3) := by decide +kernel
theorem dX12_keepsAct_46 : decode mX12_keepsAct.2.1 46 = .ok (.aload_n 0, 1) := by decide +kernel
theorem dX12_keepsAct_47 : decode mX12_keepsAct.2.1 47 = .ok (.dup, 1) := by decide +kernel
theorem dX12_keepsAct_48 : decode mX12_keepsAct.2.1 48 = .ok (.getfield 118, 3) := by decide +kernel
theorem dX12_keepsAct_51 : decode mX12_keepsAct.2.1 51 = .ok (.iconst 1, 1) := by decide +kernel
theorem dX12_keepsAct_52 : decode mX12_keepsAct.2.1 52 = .ok (.isub, 1) := by decide +kernel
theorem dX12_keepsAct_53 : decode mX12_keepsAct.2.1 53 = .ok (.putfield 118, 3) := by decide +kernel
theorem dX12_keepsAct_56 : decode mX12_keepsAct.2.1 56 = .ok (.aload_n 0, 1) := by decide +kernel
theorem dX12_keepsAct_57 : decode mX12_keepsAct.2.1 57 = .ok (.getfield 37, 3) := by decide +kernel
theorem dX12_keepsAct_60 : decode mX12_keepsAct.2.1 60 = .ok (.iconst 0, 1) := by decide +kernel
theorem dX12_keepsAct_61 : decode mX12_keepsAct.2.1 61 = .ok (.aload_n 0, 1) := by decide +kernel
theorem dX12_keepsAct_62 : decode mX12_keepsAct.2.1 62 = .ok (.getfield 44, 3) := by decide +kernel
theorem dX12_keepsAct_65 : decode mX12_keepsAct.2.1 65 = .ok (.sipush 17510, 3) := by decide +kernel
theorem dX12_keepsAct_68 : decode mX12_keepsAct.2.1 68 = .ok (.aload_n 0, 1) := by decide +kernel
theorem dX12_keepsAct_69 : decode mX12_keepsAct.2.1 69 = .ok (.getfield 118, 3) := by decide +kernel
theorem dX12_keepsAct_72 : decode mX12_keepsAct.2.1 72 = .ok (.imul, 1) := by decide +kernel
theorem dX12_keepsAct_73 : decode mX12_keepsAct.2.1 73 = .ok (.invokestatic 123, 3) := by decide +kernel
theorem dX12_keepsAct_76 : decode mX12_keepsAct.2.1 76 = .ok (.aload_n 0, 1) := by decide +kernel
theorem dX12_keepsAct_77 : decode mX12_keepsAct.2.1 77 = .ok (.dup, 1) := by decide +kernel
theorem dX12_keepsAct_78 : decode mX12_keepsAct.2.1 78 = .ok (.getfield 118, 3) := by decide +kernel
theorem dX12_keepsAct_81 : decode mX12_keepsAct.2.1 81 = .ok (.iconst 1, 1) := by decide +kernel
theorem dX12_keepsAct_82 : decode mX12_keepsAct.2.1 82 = .ok (.iadd, 1) := by decide +kernel
theorem dX12_keepsAct_83 : decode mX12_keepsAct.2.1 83 = .ok (.putfield 118, 3) := by decide +kernel
