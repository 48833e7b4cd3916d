theorem dX0_init_0 : decode cX0_init 0 = .ok (.aload_n 0, 1) := by decide +kernel
theorem dX0_init_1 : decode cX0_init 1 = .ok (.invokespecial 3, 3) := by decide +kernel
theorem dX0_init_4 : decode cX0_init 4 = .ok (.return_, 1) := by decide +kernel
theorem dX0_begin_0 : decode cX0_begin 0 = .ok (.aload_n 0, 1) := by decide +kernel
theorem dX0_begin_1 : decode cX0_begin 1 = .ok (.iload_n 1, 1) := by decide +kernel
theorem dX0_begin_2 : decode cX0_begin 2 = .ok (.putfield 9, 3) := by decide +kernel
theorem dX0_begin_5 : decode cX0_begin 5 = .ok (.aload_n 0, 1) := by decide +kernel
theorem dX0_begin_6 : decode cX0_begin 6 = .ok (.iload_n 2, 1) := by decide +kernel
theorem dX0_begin_7 : decode cX0_begin 7 = .ok (.putfield 15, 3) := by decide +kernel
theorem dX0_begin_10 : decode cX0_begin 10 = .ok (.aload_n 0, 1) := by decide +kernel
theorem dX0_begin_11 : decode cX0_begin 11 = .ok (.iload_n 3, 1) := by decide +kernel
theorem dX0_begin_12 : decode cX0_begin 12 = .ok (.putfield 18, 3) := by decide +kernel
theorem dX0_begin_15 : decode cX0_begin 15 = .ok (.aload_n 0, 1) := by decide +kernel
theorem dX0_begin_16 : decode cX0_begin 16 = .ok (.iconst 0, 1) := by decide +kernel
theorem dX0_begin_17 : decode cX0_begin 17 = .ok (.putfield 21, 3) := by decide +kernel
theorem dX0_begin_20 : decode cX0_begin 20 = .ok (.aload_n 0, 1) := by decide +kernel
theorem dX0_begin_21 : decode cX0_begin 21 = .ok (.bipush 20, 2) := by decide +kernel
theorem dX0_begin_23 : decode cX0_begin 23 = .ok (.putfield 24, 3) := by decide +kernel
theorem dX0_begin_26 : decode cX0_begin 26 = .ok (.return_, 1) := by decide +kernel
theorem dX0_take_0 : decode cX0_take 0 = .ok (.aload_n 0, 1) := by decide +kernel
theorem dX0_take_1 : decode cX0_take 1 = .ok (.aload_n 1, 1) := by decide +kernel
theorem dX0_take_2 : decode cX0_take 2 = .ok (.getfield 9, 3) := by decide +kernel
theorem dX0_take_5 : decode cX0_take 5 = .ok (.putfield 9, 3) := by decide +kernel
theorem dX0_take_8 : decode cX0_take 8 = .ok (.aload_n 0, 1) := by decide +kernel
theorem dX0_take_9 : decode cX0_take 9 = .ok (.aload_n 1, 1) := by decide +kernel
theorem dX0_take_10 : decode cX0_take 10 = .ok (.getfield 15, 3) := by decide +kernel
theorem dX0_take_13 : decode cX0_take 13 = .ok (.putfield 15, 3) := by decide +kernel
theorem dX0_take_16 : decode cX0_take 16 = .ok (.aload_n 0, 1) := by decide +kernel
theorem dX0_take_17 : decode cX0_take 17 = .ok (.aload_n 1, 1) := by decide +kernel
theorem dX0_take_18 : decode cX0_take 18 = .ok (.getfield 18, 3) := by decide +kernel
theorem dX0_take_21 : decode cX0_take 21 = .ok (.putfield 18, 3) := by decide +kernel
theorem dX0_take_24 : decode cX0_take 24 = .ok (.aload_n 0, 1) := by decide +kernel
theorem dX0_take_25 : decode cX0_take 25 = .ok (.aload_n 1, 1) := by decide +kernel
theorem dX0_take_26 : decode cX0_take 26 = .ok (.getfield 21, 3) := by decide +kernel
theorem dX0_take_29 : decode cX0_take 29 = .ok (.putfield 21, 3) := by decide +kernel
theorem dX0_take_32 : decode cX0_take 32 = .ok (.aload_n 0, 1) := by decide +kernel
theorem dX0_take_33 : decode cX0_take 33 = .ok (.aload_n 1, 1) := by decide +kernel
theorem dX0_take_34 : decode cX0_take 34 = .ok (.getfield 24, 3) := by decide +kernel
theorem dX0_take_37 : decode cX0_take 37 = .ok (.putfield 24, 3) := by decide +kernel
theorem dX0_take_40 : decode cX0_take 40 = .ok (.return_, 1) := by decide +kernel
theorem dX0_stands_0 : decode cX0_stands 0 = .ok (.aload_n 0, 1) := by decide +kernel
theorem dX0_stands_1 : decode cX0_stands 1 = .ok (.getfield 24, 3) := by decide +kernel
theorem dX0_stands_4 : decode cX0_stands 4 = .ok (.ifCond .le 7, 3) := by decide +kernel
theorem dX0_stands_7 : decode cX0_stands 7 = .ok (.iconst 1, 1) := by decide +kernel
theorem dX0_stands_8 : decode cX0_stands 8 = .ok (.goto 4, 3) := by decide +kernel
theorem dX0_stands_11 : decode cX0_stands 11 = .ok (.iconst 0, 1) := by decide +kernel
theorem dX0_stands_12 : decode cX0_stands 12 = .ok (.ireturn, 1) := by decide +kernel
theorem dX0_isUnder_0 : decode cX0_isUnder 0 = .ok (.iload_n 1, 1) := by decide +kernel
theorem dX0_isUnder_1 : decode cX0_isUnder 1 = .ok (.ifCond .eq 37, 3) := by decide +kernel
theorem dX0_isUnder_4 : decode cX0_isUnder 4 = .ok (.iload_n 1, 1) := by decide +kernel
theorem dX0_isUnder_5 : decode cX0_isUnder 5 = .ok (.aload_n 0, 1) := by decide +kernel
theorem dX0_isUnder_6 : decode cX0_isUnder 6 = .ok (.getfield 9, 3) := by decide +kernel
theorem dX0_isUnder_9 : decode cX0_isUnder 9 = .ok (.if_icmp .eq 29, 3) := by decide +kernel
theorem dX0_isUnder_12 : decode cX0_isUnder 12 = .ok (.iload_n 1, 1) := by decide +kernel
theorem dX0_isUnder_13 : decode cX0_isUnder 13 = .ok (.iconst 1, 1) := by decide +kernel
theorem dX0_isUnder_14 : decode cX0_isUnder 14 = .ok (.if_icmp .ne 11, 3) := by decide +kernel
theorem dX0_isUnder_17 : decode cX0_isUnder 17 = .ok (.aload_n 0, 1) := by decide +kernel
theorem dX0_isUnder_18 : decode cX0_isUnder 18 = .ok (.getfield 9, 3) := by decide +kernel
theorem dX0_isUnder_21 : decode cX0_isUnder 21 = .ok (.iconst 3, 1) := by decide +kernel
theorem dX0_isUnder_22 : decode cX0_isUnder 22 = .ok (.if_icmp .eq 16, 3) := by decide +kernel
theorem dX0_isUnder_25 : decode cX0_isUnder 25 = .ok (.iload_n 1, 1) := by decide +kernel
theorem dX0_isUnder_26 : decode cX0_isUnder 26 = .ok (.iconst 2, 1) := by decide +kernel
theorem dX0_isUnder_27 : decode cX0_isUnder 27 = .ok (.if_icmp .ne 15, 3) := by decide +kernel
theorem dX0_isUnder_30 : decode cX0_isUnder 30 = .ok (.aload_n 0, 1) := by decide +kernel
theorem dX0_isUnder_31 : decode cX0_isUnder 31 = .ok (.getfield 9, 3) := by decide +kernel
theorem dX0_isUnder_34 : decode cX0_isUnder 34 = .ok (.iconst 4, 1) := by decide +kernel
theorem dX0_isUnder_35 : decode cX0_isUnder 35 = .ok (.if_icmp .ne 7, 3) := by decide +kernel
theorem dX0_isUnder_38 : decode cX0_isUnder 38 = .ok (.iconst 1, 1) := by decide +kernel
theorem dX0_isUnder_39 : decode cX0_isUnder 39 = .ok (.goto 4, 3) := by decide +kernel
theorem dX0_isUnder_42 : decode cX0_isUnder 42 = .ok (.iconst 0, 1) := by decide +kernel
theorem dX0_isUnder_43 : decode cX0_isUnder 43 = .ok (.ireturn, 1) := by decide +kernel
theorem dX0_lossBy_0 : decode cX0_lossBy 0 = .ok (.aload_n 0, 1) := by decide +kernel
theorem dX0_lossBy_1 : decode cX0_lossBy 1 = .ok (.getfield 9, 3) := by decide +kernel
theorem dX0_lossBy_4 : decode cX0_lossBy 4 = .ok (.tableswitch 90 1 5 #[36, 40, 54, 63, 79], 36) := by decide +kernel
theorem dX0_lossBy_40 : decode cX0_lossBy 40 = .ok (.iload_n 1, 1) := by decide +kernel
theorem dX0_lossBy_41 : decode cX0_lossBy 41 = .ok (.iconst 2, 1) := by decide +kernel
theorem dX0_lossBy_42 : decode cX0_lossBy 42 = .ok (.idiv, 1) := by decide +kernel
theorem dX0_lossBy_43 : decode cX0_lossBy 43 = .ok (.ireturn, 1) := by decide +kernel
theorem dX0_lossBy_44 : decode cX0_lossBy 44 = .ok (.aload_n 0, 1) := by decide +kernel
theorem dX0_lossBy_45 : decode cX0_lossBy 45 = .ok (.iload_n 2, 1) := by decide +kernel
theorem dX0_lossBy_46 : decode cX0_lossBy 46 = .ok (.invokevirtual 27, 3) := by decide +kernel
theorem dX0_lossBy_49 : decode cX0_lossBy 49 = .ok (.ifCond .eq 7, 3) := by decide +kernel
theorem dX0_lossBy_52 : decode cX0_lossBy 52 = .ok (.iconst 0, 1) := by decide +kernel
theorem dX0_lossBy_53 : decode cX0_lossBy 53 = .ok (.goto 4, 3) := by decide +kernel
theorem dX0_lossBy_56 : decode cX0_lossBy 56 = .ok (.iload_n 1, 1) := by decide +kernel
theorem dX0_lossBy_57 : decode cX0_lossBy 57 = .ok (.ireturn, 1) := by decide +kernel
theorem dX0_lossBy_58 : decode cX0_lossBy 58 = .ok (.iload_n 1, 1) := by decide +kernel
theorem dX0_lossBy_59 : decode cX0_lossBy 59 = .ok (.iconst 2, 1) := by decide +kernel
theorem dX0_lossBy_60 : decode cX0_lossBy 60 = .ok (.idiv, 1) := by decide +kernel
theorem dX0_lossBy_61 : decode cX0_lossBy 61 = .ok (.aload_n 0, 1) := by decide +kernel
theorem dX0_lossBy_62 : decode cX0_lossBy 62 = .ok (.getfield 15, 3) := by decide +kernel
theorem dX0_lossBy_65 : decode cX0_lossBy 65 = .ok (.iadd, 1) := by decide +kernel
theorem dX0_lossBy_66 : decode cX0_lossBy 66 = .ok (.ireturn, 1) := by decide +kernel
theorem dX0_lossBy_67 : decode cX0_lossBy 67 = .ok (.aload_n 0, 1) := by decide +kernel
theorem dX0_lossBy_68 : decode cX0_lossBy 68 = .ok (.iload_n 2, 1) := by decide +kernel
theorem dX0_lossBy_69 : decode cX0_lossBy 69 = .ok (.invokevirtual 27, 3) := by decide +kernel
theorem dX0_lossBy_72 : decode cX0_lossBy 72 = .ok (.ifCond .eq 7, 3) := by decide +kernel
theorem dX0_lossBy_75 : decode cX0_lossBy 75 = .ok (.iconst 0, 1) := by decide +kernel
theorem dX0_lossBy_76 : decode cX0_lossBy 76 = .ok (.goto 6, 3) := by decide +kernel
theorem dX0_lossBy_79 : decode cX0_lossBy 79 = .ok (.iconst 2, 1) := by decide +kernel
theorem dX0_lossBy_80 : decode cX0_lossBy 80 = .ok (.iload_n 1, 1) := by decide +kernel
theorem dX0_lossBy_81 : decode cX0_lossBy 81 = .ok (.imul, 1) := by decide +kernel
theorem dX0_lossBy_82 : decode cX0_lossBy 82 = .ok (.ireturn, 1) := by decide +kernel
theorem dX0_lossBy_83 : decode cX0_lossBy 83 = .ok (.iconst 0, 1) := by decide +kernel
theorem dX0_lossBy_84 : decode cX0_lossBy 84 = .ok (.iload_n 1, 1) := by decide +kernel
theorem dX0_lossBy_85 : decode cX0_lossBy 85 = .ok (.aload_n 0, 1) := by decide +kernel
theorem dX0_lossBy_86 : decode cX0_lossBy 86 = .ok (.getfield 15, 3) := by decide +kernel
theorem dX0_lossBy_89 : decode cX0_lossBy 89 = .ok (.isub, 1) := by decide +kernel
theorem dX0_lossBy_90 : decode cX0_lossBy 90 = .ok (.invokestatic 31, 3) := by decide +kernel
theorem dX0_lossBy_93 : decode cX0_lossBy 93 = .ok (.ireturn, 1) := by decide +kernel
theorem dX0_lossBy_94 : decode cX0_lossBy 94 = .ok (.iload_n 1, 1) := by decide +kernel
theorem dX0_lossBy_95 : decode cX0_lossBy 95 = .ok (.ireturn, 1) := by decide +kernel
theorem dX0_isDry_0 : decode cX0_isDry 0 = .ok (.aload_n 0, 1) := by decide +kernel
theorem dX0_isDry_1 : decode cX0_isDry 1 = .ok (.getfield 15, 3) := by decide +kernel
theorem dX0_isDry_4 : decode cX0_isDry 4 = .ok (.iconst 2, 1) := by decide +kernel
theorem dX0_isDry_5 : decode cX0_isDry 5 = .ok (.iadd, 1) := by decide +kernel
theorem dX0_isDry_6 : decode cX0_isDry 6 = .ok (.istore_n 2, 1) := by decide +kernel
theorem dX0_isDry_7 : decode cX0_isDry 7 = .ok (.iload_n 2, 1) := by decide +kernel
theorem dX0_isDry_8 : decode cX0_isDry 8 = .ok (.ifCond .le 13, 3) := by decide +kernel
theorem dX0_isDry_11 : decode cX0_isDry 11 = .ok (.iload_n 1, 1) := by decide +kernel
theorem dX0_isDry_12 : decode cX0_isDry 12 = .ok (.iload_n 2, 1) := by decide +kernel
theorem dX0_isDry_13 : decode cX0_isDry 13 = .ok (.irem, 1) := by decide +kernel
theorem dX0_isDry_14 : decode cX0_isDry 14 = .ok (.ifCond .ne 7, 3) := by decide +kernel
theorem dX0_isDry_17 : decode cX0_isDry 17 = .ok (.iconst 1, 1) := by decide +kernel
theorem dX0_isDry_18 : decode cX0_isDry 18 = .ok (.goto 4, 3) := by decide +kernel
theorem dX0_isDry_21 : decode cX0_isDry 21 = .ok (.iconst 0, 1) := by decide +kernel
theorem dX0_isDry_22 : decode cX0_isDry 22 = .ok (.ireturn, 1) := by decide +kernel
theorem dX0_riseBy_0 : decode cX0_riseBy 0 = .ok (.aload_n 0, 1) := by decide +kernel
theorem dX0_riseBy_1 : decode cX0_riseBy 1 = .ok (.getfield 9, 3) := by decide +kernel
theorem dX0_riseBy_4 : decode cX0_riseBy 4 = .ok (.tableswitch 46 1 4 #[32, 36, 32, 40], 32) := by decide +kernel
theorem dX0_riseBy_36 : decode cX0_riseBy 36 = .ok (.iload_n 1, 1) := by decide +kernel
theorem dX0_riseBy_37 : decode cX0_riseBy 37 = .ok (.iconst 1, 1) := by decide +kernel
theorem dX0_riseBy_38 : decode cX0_riseBy 38 = .ok (.iadd, 1) := by decide +kernel
theorem dX0_riseBy_39 : decode cX0_riseBy 39 = .ok (.ireturn, 1) := by decide +kernel
theorem dX0_riseBy_40 : decode cX0_riseBy 40 = .ok (.iload_n 1, 1) := by decide +kernel
theorem dX0_riseBy_41 : decode cX0_riseBy 41 = .ok (.iconst 2, 1) := by decide +kernel
theorem dX0_riseBy_42 : decode cX0_riseBy 42 = .ok (.idiv, 1) := by decide +kernel
theorem dX0_riseBy_43 : decode cX0_riseBy 43 = .ok (.ireturn, 1) := by decide +kernel
theorem dX0_riseBy_44 : decode cX0_riseBy 44 = .ok (.iload_n 1, 1) := by decide +kernel
theorem dX0_riseBy_45 : decode cX0_riseBy 45 = .ok (.iconst 2, 1) := by decide +kernel
theorem dX0_riseBy_46 : decode cX0_riseBy 46 = .ok (.idiv, 1) := by decide +kernel
theorem dX0_riseBy_47 : decode cX0_riseBy 47 = .ok (.iconst 1, 1) := by decide +kernel
theorem dX0_riseBy_48 : decode cX0_riseBy 48 = .ok (.iadd, 1) := by decide +kernel
theorem dX0_riseBy_49 : decode cX0_riseBy 49 = .ok (.ireturn, 1) := by decide +kernel
theorem dX0_riseBy_50 : decode cX0_riseBy 50 = .ok (.iload_n 1, 1) := by decide +kernel
theorem dX0_riseBy_51 : decode cX0_riseBy 51 = .ok (.ireturn, 1) := by decide +kernel
theorem dX1_init_0 : decode cX1_init 0 = .ok (.aload_n 0, 1) := by decide +kernel
theorem dX1_init_1 : decode cX1_init 1 = .ok (.invokespecial 3, 3) := by decide +kernel
theorem dX1_init_4 : decode cX1_init 4 = .ok (.aload_n 0, 1) := by decide +kernel
theorem dX1_init_5 : decode cX1_init 5 = .ok (.iconst 3, 1) := by decide +kernel
theorem dX1_init_6 : decode cX1_init 6 = .ok (.bipush 8, 2) := by decide +kernel
theorem dX1_init_8 : decode cX1_init 8 = .ok (.multianewarray 9 2, 4) := by decide +kernel
theorem dX1_init_12 : decode cX1_init 12 = .ok (.putfield 11, 3) := by decide +kernel
theorem dX1_init_15 : decode cX1_init 15 = .ok (.aload_n 0, 1) := by decide +kernel
theorem dX1_init_16 : decode cX1_init 16 = .ok (.aload_n 1, 1) := by decide +kernel
theorem dX1_init_17 : decode cX1_init 17 = .ok (.putfield 16, 3) := by decide +kernel
theorem dX1_init_20 : decode cX1_init 20 = .ok (.return_, 1) := by decide +kernel
theorem dX1_most_0 : decode cX1_most 0 = .ok (.iload_n 1, 1) := by decide +kernel
theorem dX1_most_1 : decode cX1_most 1 = .ok (.iconst 1, 1) := by decide +kernel
theorem dX1_most_2 : decode cX1_most 2 = .ok (.if_icmp .lt 8, 3) := by decide +kernel
theorem dX1_most_5 : decode cX1_most 5 = .ok (.iload_n 1, 1) := by decide +kernel
theorem dX1_most_6 : decode cX1_most 6 = .ok (.iconst 3, 1) := by decide +kernel
theorem dX1_most_7 : decode cX1_most 7 = .ok (.if_icmp .le 12, 3) := by decide +kernel
theorem dX1_most_10 : decode cX1_most 10 = .ok (.aload_n 0, 1) := by decide +kernel
theorem dX1_most_11 : decode cX1_most 11 = .ok (.getfield 16, 3) := by decide +kernel
theorem dX1_most_14 : decode cX1_most 14 = .ok (.iconst 0, 1) := by decide +kernel
theorem dX1_most_15 : decode cX1_most 15 = .ok (.invokevirtual 20, 3) := by decide +kernel
theorem dX1_most_18 : decode cX1_most 18 = .ok (.ireturn, 1) := by decide +kernel
theorem dX1_most_19 : decode cX1_most 19 = .ok (.iconst (-1), 1) := by decide +kernel
theorem dX1_most_20 : decode cX1_most 20 = .ok (.istore 4, 2) := by decide +kernel
theorem dX1_most_22 : decode cX1_most 22 = .ok (.aload_n 0, 1) := by decide +kernel
theorem dX1_most_23 : decode cX1_most 23 = .ok (.iload_n 1, 1) := by decide +kernel
theorem dX1_most_24 : decode cX1_most 24 = .ok (.iload_n 2, 1) := by decide +kernel
theorem dX1_most_25 : decode cX1_most 25 = .ok (.iload_n 3, 1) := by decide +kernel
theorem dX1_most_26 : decode cX1_most 26 = .ok (.invokevirtual 26, 3) := by decide +kernel
theorem dX1_most_29 : decode cX1_most 29 = .ok (.istore 5, 2) := by decide +kernel
theorem dX1_most_31 : decode cX1_most 31 = .ok (.iconst 0, 1) := by decide +kernel
theorem dX1_most_32 : decode cX1_most 32 = .ok (.istore 6, 2) := by decide +kernel
theorem dX1_most_34 : decode cX1_most 34 = .ok (.iload 6, 2) := by decide +kernel
theorem dX1_most_36 : decode cX1_most 36 = .ok (.aload_n 0, 1) := by decide +kernel
theorem dX1_most_37 : decode cX1_most 37 = .ok (.getfield 16, 3) := by decide +kernel
theorem dX1_most_40 : decode cX1_most 40 = .ok (.getfield 30, 3) := by decide +kernel
theorem dX1_most_43 : decode cX1_most 43 = .ok (.if_icmp .ge 94, 3) := by decide +kernel
theorem dX1_most_46 : decode cX1_most 46 = .ok (.iload 5, 2) := by decide +kernel
theorem dX1_most_48 : decode cX1_most 48 = .ok (.iload_n 3, 1) := by decide +kernel
theorem dX1_most_49 : decode cX1_most 49 = .ok (.if_icmp .ge 88, 3) := by decide +kernel
theorem dX1_most_52 : decode cX1_most 52 = .ok (.aload_n 0, 1) := by decide +kernel
theorem dX1_most_53 : decode cX1_most 53 = .ok (.getfield 16, 3) := by decide +kernel
theorem dX1_most_56 : decode cX1_most 56 = .ok (.iload 6, 2) := by decide +kernel
theorem dX1_most_58 : decode cX1_most 58 = .ok (.invokevirtual 34, 3) := by decide +kernel
theorem dX1_most_61 : decode cX1_most 61 = .ok (.astore 7, 2) := by decide +kernel
theorem dX1_most_63 : decode cX1_most 63 = .ok (.aload 7, 2) := by decide +kernel
theorem dX1_most_65 : decode cX1_most 65 = .ok (.ifnull 66, 3) := by decide +kernel
theorem dX1_most_68 : decode cX1_most 68 = .ok (.aload 7, 2) := by decide +kernel
theorem dX1_most_70 : decode cX1_most 70 = .ok (.getfield 38, 3) := by decide +kernel
theorem dX1_most_73 : decode cX1_most 73 = .ok (.ifCond .eq 6, 3) := by decide +kernel
theorem dX1_most_76 : decode cX1_most 76 = .ok (.goto 55, 3) := by decide +kernel
theorem dX1_most_79 : decode cX1_most 79 = .ok (.aload 7, 2) := by decide +kernel
theorem dX1_most_81 : decode cX1_most 81 = .ok (.getfield 43, 3) := by decide +kernel
theorem dX1_most_84 : decode cX1_most 84 = .ok (.istore 8, 2) := by decide +kernel
theorem dX1_most_86 : decode cX1_most 86 = .ok (.aload_n 0, 1) := by decide +kernel
theorem dX1_most_87 : decode cX1_most 87 = .ok (.getfield 16, 3) := by decide +kernel
theorem dX1_most_90 : decode cX1_most 90 = .ok (.aload 7, 2) := by decide +kernel
theorem dX1_most_92 : decode cX1_most 92 = .ok (.invokevirtual 46, 3) := by decide +kernel
theorem dX1_most_95 : decode cX1_most 95 = .ok (.aload_n 0, 1) := by decide +kernel
theorem dX1_most_96 : decode cX1_most 96 = .ok (.iload_n 1, 1) := by decide +kernel
theorem dX1_most_97 : decode cX1_most 97 = .ok (.iload_n 2, 1) := by decide +kernel
theorem dX1_most_98 : decode cX1_most 98 = .ok (.iload 5, 2) := by decide +kernel
theorem dX1_most_100 : decode cX1_most 100 = .ok (.invokestatic 50, 3) := by decide +kernel
theorem dX1_most_103 : decode cX1_most 103 = .ok (.iload_n 3, 1) := by decide +kernel
theorem dX1_most_104 : decode cX1_most 104 = .ok (.invokevirtual 26, 3) := by decide +kernel
theorem dX1_most_107 : decode cX1_most 107 = .ok (.istore 9, 2) := by decide +kernel
theorem dX1_most_109 : decode cX1_most 109 = .ok (.aload 7, 2) := by decide +kernel
theorem dX1_most_111 : decode cX1_most 111 = .ok (.iload 8, 2) := by decide +kernel
theorem dX1_most_113 : decode cX1_most 113 = .ok (.putfield 43, 3) := by decide +kernel
theorem dX1_most_116 : decode cX1_most 116 = .ok (.iload 9, 2) := by decide +kernel
theorem dX1_most_118 : decode cX1_most 118 = .ok (.iload 5, 2) := by decide +kernel
theorem dX1_most_120 : decode cX1_most 120 = .ok (.if_icmp .le 11, 3) := by decide +kernel
theorem dX1_most_123 : decode cX1_most 123 = .ok (.iload 9, 2) := by decide +kernel
theorem dX1_most_125 : decode cX1_most 125 = .ok (.istore 5, 2) := by decide +kernel
theorem dX1_most_127 : decode cX1_most 127 = .ok (.iload 6, 2) := by decide +kernel
theorem dX1_most_129 : decode cX1_most 129 = .ok (.istore 4, 2) := by decide +kernel
theorem dX1_most_131 : decode cX1_most 131 = .ok (.iinc 6 1, 3) := by decide +kernel
theorem dX1_most_134 : decode cX1_most 134 = .ok (.goto (-100), 3) := by decide +kernel
theorem dX1_most_137 : decode cX1_most 137 = .ok (.aload_n 0, 1) := by decide +kernel
theorem dX1_most_138 : decode cX1_most 138 = .ok (.iload 4, 2) := by decide +kernel
theorem dX1_most_140 : decode cX1_most 140 = .ok (.putfield 56, 3) := by decide +kernel
theorem dX1_most_143 : decode cX1_most 143 = .ok (.iload 5, 2) := by decide +kernel
theorem dX1_most_145 : decode cX1_most 145 = .ok (.ireturn, 1) := by decide +kernel
theorem dX1_least_0 : decode cX1_least 0 = .ok (.aload_n 0, 1) := by decide +kernel
theorem dX1_least_1 : decode cX1_least 1 = .ok (.iload_n 1, 1) := by decide +kernel
theorem dX1_least_2 : decode cX1_least 2 = .ok (.iload_n 2, 1) := by decide +kernel
theorem dX1_least_3 : decode cX1_least 3 = .ok (.iload_n 3, 1) := by decide +kernel
theorem dX1_least_4 : decode cX1_least 4 = .ok (.invokevirtual 59, 3) := by decide +kernel
theorem dX1_least_7 : decode cX1_least 7 = .ok (.istore 4, 2) := by decide +kernel
theorem dX1_least_9 : decode cX1_least 9 = .ok (.iconst 0, 1) := by decide +kernel
theorem dX1_least_10 : decode cX1_least 10 = .ok (.istore 5, 2) := by decide +kernel
theorem dX1_least_12 : decode cX1_least 12 = .ok (.iload 5, 2) := by decide +kernel
theorem dX1_least_14 : decode cX1_least 14 = .ok (.aload_n 0, 1) := by decide +kernel
theorem dX1_least_15 : decode cX1_least 15 = .ok (.getfield 16, 3) := by decide +kernel
theorem dX1_least_18 : decode cX1_least 18 = .ok (.getfield 30, 3) := by decide +kernel
theorem dX1_least_21 : decode cX1_least 21 = .ok (.if_icmp .ge 89, 3) := by decide +kernel
theorem dX1_least_24 : decode cX1_least 24 = .ok (.iload 4, 2) := by decide +kernel
theorem dX1_least_26 : decode cX1_least 26 = .ok (.iload_n 2, 1) := by decide +kernel
theorem dX1_least_27 : decode cX1_least 27 = .ok (.if_icmp .le 83, 3) := by decide +kernel
theorem dX1_least_30 : decode cX1_least 30 = .ok (.aload_n 0, 1) := by decide +kernel
theorem dX1_least_31 : decode cX1_least 31 = .ok (.getfield 16, 3) := by decide +kernel
theorem dX1_least_34 : decode cX1_least 34 = .ok (.iload 5, 2) := by decide +kernel
theorem dX1_least_36 : decode cX1_least 36 = .ok (.invokevirtual 34, 3) := by decide +kernel
theorem dX1_least_39 : decode cX1_least 39 = .ok (.astore 6, 2) := by decide +kernel
theorem dX1_least_41 : decode cX1_least 41 = .ok (.aload 6, 2) := by decide +kernel
theorem dX1_least_43 : decode cX1_least 43 = .ok (.ifnull 61, 3) := by decide +kernel
theorem dX1_least_46 : decode cX1_least 46 = .ok (.aload 6, 2) := by decide +kernel
theorem dX1_least_48 : decode cX1_least 48 = .ok (.getfield 38, 3) := by decide +kernel
theorem dX1_least_51 : decode cX1_least 51 = .ok (.iconst 1, 1) := by decide +kernel
theorem dX1_least_52 : decode cX1_least 52 = .ok (.if_icmp .eq 6, 3) := by decide +kernel
theorem dX1_least_55 : decode cX1_least 55 = .ok (.goto 49, 3) := by decide +kernel
theorem dX1_least_58 : decode cX1_least 58 = .ok (.aload 6, 2) := by decide +kernel
theorem dX1_least_60 : decode cX1_least 60 = .ok (.getfield 43, 3) := by decide +kernel
theorem dX1_least_63 : decode cX1_least 63 = .ok (.istore 7, 2) := by decide +kernel
theorem dX1_least_65 : decode cX1_least 65 = .ok (.aload_n 0, 1) := by decide +kernel
theorem dX1_least_66 : decode cX1_least 66 = .ok (.getfield 16, 3) := by decide +kernel
theorem dX1_least_69 : decode cX1_least 69 = .ok (.aload 6, 2) := by decide +kernel
theorem dX1_least_71 : decode cX1_least 71 = .ok (.invokevirtual 46, 3) := by decide +kernel
theorem dX1_least_74 : decode cX1_least 74 = .ok (.aload_n 0, 1) := by decide +kernel
theorem dX1_least_75 : decode cX1_least 75 = .ok (.iload_n 1, 1) := by decide +kernel
theorem dX1_least_76 : decode cX1_least 76 = .ok (.iload_n 2, 1) := by decide +kernel
theorem dX1_least_77 : decode cX1_least 77 = .ok (.iload_n 3, 1) := by decide +kernel
theorem dX1_least_78 : decode cX1_least 78 = .ok (.iload 4, 2) := by decide +kernel
theorem dX1_least_80 : decode cX1_least 80 = .ok (.invokestatic 62, 3) := by decide +kernel
theorem dX1_least_83 : decode cX1_least 83 = .ok (.invokevirtual 59, 3) := by decide +kernel
theorem dX1_least_86 : decode cX1_least 86 = .ok (.istore 8, 2) := by decide +kernel
theorem dX1_least_88 : decode cX1_least 88 = .ok (.aload 6, 2) := by decide +kernel
theorem dX1_least_90 : decode cX1_least 90 = .ok (.iload 7, 2) := by decide +kernel
theorem dX1_least_92 : decode cX1_least 92 = .ok (.putfield 43, 3) := by decide +kernel
theorem dX1_least_95 : decode cX1_least 95 = .ok (.iload 4, 2) := by decide +kernel
theorem dX1_least_97 : decode cX1_least 97 = .ok (.iload 8, 2) := by decide +kernel
theorem dX1_least_99 : decode cX1_least 99 = .ok (.invokestatic 62, 3) := by decide +kernel
theorem dX1_least_102 : decode cX1_least 102 = .ok (.istore 4, 2) := by decide +kernel
theorem dX1_least_104 : decode cX1_least 104 = .ok (.iinc 5 1, 3) := by decide +kernel
theorem dX1_least_107 : decode cX1_least 107 = .ok (.goto (-95), 3) := by decide +kernel
theorem dX1_least_110 : decode cX1_least 110 = .ok (.iload 4, 2) := by decide +kernel
theorem dX1_least_112 : decode cX1_least 112 = .ok (.ireturn, 1) := by decide +kernel
theorem dX1_behindWave_0 : decode cX1_behindWave 0 = .ok (.iload_n 1, 1) := by decide +kernel
theorem dX1_behindWave_1 : decode cX1_behindWave 1 = .ok (.iconst 1, 1) := by decide +kernel
theorem dX1_behindWave_2 : decode cX1_behindWave 2 = .ok (.if_icmp .lt 8, 3) := by decide +kernel
theorem dX1_behindWave_5 : decode cX1_behindWave 5 = .ok (.iload_n 1, 1) := by decide +kernel
theorem dX1_behindWave_6 : decode cX1_behindWave 6 = .ok (.iconst 3, 1) := by decide +kernel
theorem dX1_behindWave_7 : decode cX1_behindWave 7 = .ok (.if_icmp .le 12, 3) := by decide +kernel
theorem dX1_behindWave_10 : decode cX1_behindWave 10 = .ok (.aload_n 0, 1) := by decide +kernel
theorem dX1_behindWave_11 : decode cX1_behindWave 11 = .ok (.getfield 16, 3) := by decide +kernel
theorem dX1_behindWave_14 : decode cX1_behindWave 14 = .ok (.iconst 0, 1) := by decide +kernel
theorem dX1_behindWave_15 : decode cX1_behindWave 15 = .ok (.invokevirtual 20, 3) := by decide +kernel
theorem dX1_behindWave_18 : decode cX1_behindWave 18 = .ok (.ireturn, 1) := by decide +kernel
theorem dX1_behindWave_19 : decode cX1_behindWave 19 = .ok (.aload_n 0, 1) := by decide +kernel
theorem dX1_behindWave_20 : decode cX1_behindWave 20 = .ok (.getfield 11, 3) := by decide +kernel
theorem dX1_behindWave_23 : decode cX1_behindWave 23 = .ok (.iload_n 1, 1) := by decide +kernel
theorem dX1_behindWave_24 : decode cX1_behindWave 24 = .ok (.iconst 1, 1) := by decide +kernel
theorem dX1_behindWave_25 : decode cX1_behindWave 25 = .ok (.isub, 1) := by decide +kernel
theorem dX1_behindWave_26 : decode cX1_behindWave 26 = .ok (.aaload, 1) := by decide +kernel
theorem dX1_behindWave_27 : decode cX1_behindWave 27 = .ok (.astore 4, 2) := by decide +kernel
theorem dX1_behindWave_29 : decode cX1_behindWave 29 = .ok (.iconst 0, 1) := by decide +kernel
theorem dX1_behindWave_30 : decode cX1_behindWave 30 = .ok (.istore 5, 2) := by decide +kernel
theorem dX1_behindWave_32 : decode cX1_behindWave 32 = .ok (.iload 5, 2) := by decide +kernel
theorem dX1_behindWave_34 : decode cX1_behindWave 34 = .ok (.bipush 8, 2) := by decide +kernel
theorem dX1_behindWave_36 : decode cX1_behindWave 36 = .ok (.if_icmp .ge 27, 3) := by decide +kernel
theorem dX1_behindWave_39 : decode cX1_behindWave 39 = .ok (.aload 4, 2) := by decide +kernel
theorem dX1_behindWave_41 : decode cX1_behindWave 41 = .ok (.iload 5, 2) := by decide +kernel
theorem dX1_behindWave_43 : decode cX1_behindWave 43 = .ok (.aload_n 0, 1) := by decide +kernel
theorem dX1_behindWave_44 : decode cX1_behindWave 44 = .ok (.getfield 16, 3) := by decide +kernel
theorem dX1_behindWave_47 : decode cX1_behindWave 47 = .ok (.getfield 65, 3) := by decide +kernel
theorem dX1_behindWave_50 : decode cX1_behindWave 50 = .ok (.iload 5, 2) := by decide +kernel
theorem dX1_behindWave_52 : decode cX1_behindWave 52 = .ok (.aaload, 1) := by decide +kernel
theorem dX1_behindWave_53 : decode cX1_behindWave 53 = .ok (.getfield 43, 3) := by decide +kernel
theorem dX1_behindWave_56 : decode cX1_behindWave 56 = .ok (.iastore, 1) := by decide +kernel
theorem dX1_behindWave_57 : decode cX1_behindWave 57 = .ok (.iinc 5 1, 3) := by decide +kernel
theorem dX1_behindWave_60 : decode cX1_behindWave 60 = .ok (.goto (-28), 3) := by decide +kernel
theorem dX1_behindWave_63 : decode cX1_behindWave 63 = .ok (.aload_n 0, 1) := by decide +kernel
theorem dX1_behindWave_64 : decode cX1_behindWave 64 = .ok (.getfield 16, 3) := by decide +kernel
theorem dX1_behindWave_67 : decode cX1_behindWave 67 = .ok (.invokevirtual 69, 3) := by decide +kernel
theorem dX1_behindWave_70 : decode cX1_behindWave 70 = .ok (.aload_n 0, 1) := by decide +kernel
theorem dX1_behindWave_71 : decode cX1_behindWave 71 = .ok (.iload_n 1, 1) := by decide +kernel
theorem dX1_behindWave_72 : decode cX1_behindWave 72 = .ok (.iconst 1, 1) := by decide +kernel
theorem dX1_behindWave_73 : decode cX1_behindWave 73 = .ok (.isub, 1) := by decide +kernel
theorem dX1_behindWave_74 : decode cX1_behindWave 74 = .ok (.iload_n 2, 1) := by decide +kernel
theorem dX1_behindWave_75 : decode cX1_behindWave 75 = .ok (.iload_n 3, 1) := by decide +kernel
theorem dX1_behindWave_76 : decode cX1_behindWave 76 = .ok (.invokevirtual 72, 3) := by decide +kernel
theorem dX1_behindWave_79 : decode cX1_behindWave 79 = .ok (.istore 5, 2) := by decide +kernel
theorem dX1_behindWave_81 : decode cX1_behindWave 81 = .ok (.aload_n 0, 1) := by decide +kernel
theorem dX1_behindWave_82 : decode cX1_behindWave 82 = .ok (.getfield 16, 3) := by decide +kernel
theorem dX1_behindWave_85 : decode cX1_behindWave 85 = .ok (.dup, 1) := by decide +kernel
theorem dX1_behindWave_86 : decode cX1_behindWave 86 = .ok (.getfield 75, 3) := by decide +kernel
theorem dX1_behindWave_89 : decode cX1_behindWave 89 = .ok (.iconst 1, 1) := by decide +kernel
theorem dX1_behindWave_90 : decode cX1_behindWave 90 = .ok (.isub, 1) := by decide +kernel
theorem dX1_behindWave_91 : decode cX1_behindWave 91 = .ok (.putfield 75, 3) := by decide +kernel
theorem dX1_behindWave_94 : decode cX1_behindWave 94 = .ok (.iconst 0, 1) := by decide +kernel
theorem dX1_behindWave_95 : decode cX1_behindWave 95 = .ok (.istore 6, 2) := by decide +kernel
theorem dX1_behindWave_97 : decode cX1_behindWave 97 = .ok (.iload 6, 2) := by decide +kernel
theorem dX1_behindWave_99 : decode cX1_behindWave 99 = .ok (.bipush 8, 2) := by decide +kernel
theorem dX1_behindWave_101 : decode cX1_behindWave 101 = .ok (.if_icmp .ge 27, 3) := by decide +kernel
theorem dX1_behindWave_104 : decode cX1_behindWave 104 = .ok (.aload_n 0, 1) := by decide +kernel
theorem dX1_behindWave_105 : decode cX1_behindWave 105 = .ok (.getfield 16, 3) := by decide +kernel
theorem dX1_behindWave_108 : decode cX1_behindWave 108 = .ok (.getfield 65, 3) := by decide +kernel
theorem dX1_behindWave_111 : decode cX1_behindWave 111 = .ok (.iload 6, 2) := by decide +kernel
theorem dX1_behindWave_113 : decode cX1_behindWave 113 = .ok (.aaload, 1) := by decide +kernel
theorem dX1_behindWave_114 : decode cX1_behindWave 114 = .ok (.aload 4, 2) := by decide +kernel
theorem dX1_behindWave_116 : decode cX1_behindWave 116 = .ok (.iload 6, 2) := by decide +kernel
theorem dX1_behindWave_118 : decode cX1_behindWave 118 = .ok (.iaload, 1) := by decide +kernel
theorem dX1_behindWave_119 : decode cX1_behindWave 119 = .ok (.putfield 43, 3) := by decide +kernel
theorem dX1_behindWave_122 : decode cX1_behindWave 122 = .ok (.iinc 6 1, 3) := by decide +kernel
theorem dX1_behindWave_125 : decode cX1_behindWave 125 = .ok (.goto (-28), 3) := by decide +kernel
theorem dX1_behindWave_128 : decode cX1_behindWave 128 = .ok (.iload 5, 2) := by decide +kernel
theorem dX1_behindWave_130 : decode cX1_behindWave 130 = .ok (.ireturn, 1) := by decide +kernel
theorem dX2_init_0 : decode cX2_init 0 = .ok (.aload_n 0, 1) := by decide +kernel
theorem dX2_init_1 : decode cX2_init 1 = .ok (.invokespecial 3, 3) := by decide +kernel
theorem dX2_init_4 : decode cX2_init 4 = .ok (.aload_n 0, 1) := by decide +kernel
theorem dX2_init_5 : decode cX2_init 5 = .ok (.aload_n 1, 1) := by decide +kernel
theorem dX2_init_6 : decode cX2_init 6 = .ok (.putfield 9, 3) := by decide +kernel
theorem dX2_init_9 : decode cX2_init 9 = .ok (.return_, 1) := by decide +kernel
theorem dX2_readInto_0 : decode cX2_readInto 0 = .ok (.aload_n 0, 1) := by decide +kernel
theorem dX2_readInto_1 : decode cX2_readInto 1 = .ok (.getfield 9, 3) := by decide +kernel
theorem dX2_readInto_4 : decode cX2_readInto 4 = .ok (.invokevirtual 15, 3) := by decide +kernel
theorem dX2_readInto_7 : decode cX2_readInto 7 = .ok (.aload_n 1, 1) := by decide +kernel
theorem dX2_readInto_8 : decode cX2_readInto 8 = .ok (.invokevirtual 20, 3) := by decide +kernel
theorem dX2_readInto_11 : decode cX2_readInto 11 = .ok (.aload_n 0, 1) := by decide +kernel
theorem dX2_readInto_12 : decode cX2_readInto 12 = .ok (.iconst 0, 1) := by decide +kernel
theorem dX2_readInto_13 : decode cX2_readInto 13 = .ok (.putfield 25, 3) := by decide +kernel
theorem dX2_readInto_16 : decode cX2_readInto 16 = .ok (.aload_n 0, 1) := by decide +kernel
theorem dX2_readInto_17 : decode cX2_readInto 17 = .ok (.iconst (-1), 1) := by decide +kernel
theorem dX2_readInto_18 : decode cX2_readInto 18 = .ok (.putfield 29, 3) := by decide +kernel
theorem dX2_readInto_21 : decode cX2_readInto 21 = .ok (.aload_n 0, 1) := by decide +kernel
theorem dX2_readInto_22 : decode cX2_readInto 22 = .ok (.iconst 0, 1) := by decide +kernel
theorem dX2_readInto_23 : decode cX2_readInto 23 = .ok (.invokevirtual 32, 3) := by decide +kernel
theorem dX2_readInto_26 : decode cX2_readInto 26 = .ok (.aload_n 0, 1) := by decide +kernel
theorem dX2_readInto_27 : decode cX2_readInto 27 = .ok (.iconst 3, 1) := by decide +kernel
theorem dX2_readInto_28 : decode cX2_readInto 28 = .ok (.aload_n 1, 1) := by decide +kernel
theorem dX2_readInto_29 : decode cX2_readInto 29 = .ok (.invokevirtual 36, 3) := by decide +kernel
theorem dX2_readInto_32 : decode cX2_readInto 32 = .ok (.aload_n 1, 1) := by decide +kernel
theorem dX2_readInto_33 : decode cX2_readInto 33 = .ok (.invokevirtual 40, 3) := by decide +kernel
theorem dX2_readInto_36 : decode cX2_readInto 36 = .ok (.aload_n 0, 1) := by decide +kernel
theorem dX2_readInto_37 : decode cX2_readInto 37 = .ok (.iconst 4, 1) := by decide +kernel
theorem dX2_readInto_38 : decode cX2_readInto 38 = .ok (.aload_n 1, 1) := by decide +kernel
theorem dX2_readInto_39 : decode cX2_readInto 39 = .ok (.invokevirtual 36, 3) := by decide +kernel
theorem dX2_readInto_42 : decode cX2_readInto 42 = .ok (.aload_n 1, 1) := by decide +kernel
theorem dX2_readInto_43 : decode cX2_readInto 43 = .ok (.invokevirtual 43, 3) := by decide +kernel
theorem dX2_readInto_46 : decode cX2_readInto 46 = .ok (.aload_n 0, 1) := by decide +kernel
theorem dX2_readInto_47 : decode cX2_readInto 47 = .ok (.iconst 5, 1) := by decide +kernel
theorem dX2_readInto_48 : decode cX2_readInto 48 = .ok (.aload_n 1, 1) := by decide +kernel
theorem dX2_readInto_49 : decode cX2_readInto 49 = .ok (.invokevirtual 36, 3) := by decide +kernel
theorem dX2_readInto_52 : decode cX2_readInto 52 = .ok (.aload_n 0, 1) := by decide +kernel
theorem dX2_readInto_53 : decode cX2_readInto 53 = .ok (.getfield 46, 3) := by decide +kernel
theorem dX2_readInto_56 : decode cX2_readInto 56 = .ok (.iconst 1, 1) := by decide +kernel
theorem dX2_readInto_57 : decode cX2_readInto 57 = .ok (.if_icmp .eq 7, 3) := by decide +kernel
theorem dX2_readInto_60 : decode cX2_readInto 60 = .ok (.aload_n 0, 1) := by decide +kernel
theorem dX2_readInto_61 : decode cX2_readInto 61 = .ok (.invokevirtual 49, 3) := by decide +kernel
theorem dX2_readInto_64 : decode cX2_readInto 64 = .ok (.aload_n 0, 1) := by decide +kernel
theorem dX2_readInto_65 : decode cX2_readInto 65 = .ok (.getfield 29, 3) := by decide +kernel
theorem dX2_readInto_68 : decode cX2_readInto 68 = .ok (.ireturn, 1) := by decide +kernel
theorem dX2_readPart_0 : decode cX2_readPart 0 = .ok (.aload_n 0, 1) := by decide +kernel
theorem dX2_readPart_1 : decode cX2_readPart 1 = .ok (.iload_n 1, 1) := by decide +kernel
theorem dX2_readPart_2 : decode cX2_readPart 2 = .ok (.invokevirtual 52, 3) := by decide +kernel
theorem dX2_readPart_5 : decode cX2_readPart 5 = .ok (.aload_n 0, 1) := by decide +kernel
theorem dX2_readPart_6 : decode cX2_readPart 6 = .ok (.aload_n 2, 1) := by decide +kernel
theorem dX2_readPart_7 : decode cX2_readPart 7 = .ok (.invokevirtual 55, 3) := by decide +kernel
theorem dX2_readPart_10 : decode cX2_readPart 10 = .ok (.aload_n 0, 1) := by decide +kernel
theorem dX2_readPart_11 : decode cX2_readPart 11 = .ok (.bipush 59, 2) := by decide +kernel
theorem dX2_readPart_13 : decode cX2_readPart 13 = .ok (.invokevirtual 52, 3) := by decide +kernel
theorem dX2_readPart_16 : decode cX2_readPart 16 = .ok (.return_, 1) := by decide +kernel
theorem dX2_readE_0 : decode cX2_readE 0 = .ok (.aload_n 0, 1) := by decide +kernel
theorem dX2_readE_1 : decode cX2_readE 1 = .ok (.aload_n 1, 1) := by decide +kernel
theorem dX2_readE_2 : decode cX2_readE 2 = .ok (.invokevirtual 59, 3) := by decide +kernel
theorem dX2_readE_5 : decode cX2_readE 5 = .ok (.iconst 0, 1) := by decide +kernel
theorem dX2_readE_6 : decode cX2_readE 6 = .ok (.istore_n 2, 1) := by decide +kernel
theorem dX2_readE_7 : decode cX2_readE 7 = .ok (.iload_n 2, 1) := by decide +kernel
theorem dX2_readE_8 : decode cX2_readE 8 = .ok (.sipush 160, 3) := by decide +kernel
theorem dX2_readE_11 : decode cX2_readE 11 = .ok (.if_icmp .ge 39, 3) := by decide +kernel
theorem dX2_readE_14 : decode cX2_readE 14 = .ok (.aload_n 0, 1) := by decide +kernel
theorem dX2_readE_15 : decode cX2_readE 15 = .ok (.getfield 46, 3) := by decide +kernel
theorem dX2_readE_18 : decode cX2_readE 18 = .ok (.bipush (-9), 2) := by decide +kernel
theorem dX2_readE_20 : decode cX2_readE 20 = .ok (.if_icmp .ne 30, 3) := by decide +kernel
theorem dX2_readE_23 : decode cX2_readE 23 = .ok (.aload_n 0, 1) := by decide +kernel
theorem dX2_readE_24 : decode cX2_readE 24 = .ok (.aload_n 0, 1) := by decide +kernel
theorem dX2_readE_25 : decode cX2_readE 25 = .ok (.getfield 62, 3) := by decide +kernel
theorem dX2_readE_28 : decode cX2_readE 28 = .ok (.iconst 1, 1) := by decide +kernel
theorem dX2_readE_29 : decode cX2_readE 29 = .ok (.iadd, 1) := by decide +kernel
theorem dX2_readE_30 : decode cX2_readE 30 = .ok (.invokevirtual 32, 3) := by decide +kernel
theorem dX2_readE_33 : decode cX2_readE 33 = .ok (.aload_n 0, 1) := by decide +kernel
theorem dX2_readE_34 : decode cX2_readE 34 = .ok (.aload_n 1, 1) := by decide +kernel
theorem dX2_readE_35 : decode cX2_readE 35 = .ok (.invokevirtual 59, 3) := by decide +kernel
theorem dX2_readE_38 : decode cX2_readE 38 = .ok (.aload_n 1, 1) := by decide +kernel
theorem dX2_readE_39 : decode cX2_readE 39 = .ok (.bipush (-9), 2) := by decide +kernel
theorem dX2_readE_41 : decode cX2_readE 41 = .ok (.invokevirtual 65, 3) := by decide +kernel
theorem dX2_readE_44 : decode cX2_readE 44 = .ok (.iinc 2 1, 3) := by decide +kernel
theorem dX2_readE_47 : decode cX2_readE 47 = .ok (.goto (-40), 3) := by decide +kernel
theorem dX2_readE_50 : decode cX2_readE 50 = .ok (.return_, 1) := by decide +kernel
theorem dX2_readAnd_0 : decode cX2_readAnd 0 = .ok (.aload_n 0, 1) := by decide +kernel
theorem dX2_readAnd_1 : decode cX2_readAnd 1 = .ok (.aload_n 1, 1) := by decide +kernel
theorem dX2_readAnd_2 : decode cX2_readAnd 2 = .ok (.invokevirtual 68, 3) := by decide +kernel
theorem dX2_readAnd_5 : decode cX2_readAnd 5 = .ok (.iconst 0, 1) := by decide +kernel
theorem dX2_readAnd_6 : decode cX2_readAnd 6 = .ok (.istore_n 2, 1) := by decide +kernel
theorem dX2_readAnd_7 : decode cX2_readAnd 7 = .ok (.iload_n 2, 1) := by decide +kernel
theorem dX2_readAnd_8 : decode cX2_readAnd 8 = .ok (.sipush 160, 3) := by decide +kernel
theorem dX2_readAnd_11 : decode cX2_readAnd 11 = .ok (.if_icmp .ge 39, 3) := by decide +kernel
theorem dX2_readAnd_14 : decode cX2_readAnd 14 = .ok (.aload_n 0, 1) := by decide +kernel
theorem dX2_readAnd_15 : decode cX2_readAnd 15 = .ok (.getfield 46, 3) := by decide +kernel
theorem dX2_readAnd_18 : decode cX2_readAnd 18 = .ok (.bipush (-10), 2) := by decide +kernel
theorem dX2_readAnd_20 : decode cX2_readAnd 20 = .ok (.if_icmp .ne 30, 3) := by decide +kernel
theorem dX2_readAnd_23 : decode cX2_readAnd 23 = .ok (.aload_n 0, 1) := by decide +kernel
theorem dX2_readAnd_24 : decode cX2_readAnd 24 = .ok (.aload_n 0, 1) := by decide +kernel
theorem dX2_readAnd_25 : decode cX2_readAnd 25 = .ok (.getfield 62, 3) := by decide +kernel
theorem dX2_readAnd_28 : decode cX2_readAnd 28 = .ok (.iconst 1, 1) := by decide +kernel
theorem dX2_readAnd_29 : decode cX2_readAnd 29 = .ok (.iadd, 1) := by decide +kernel
theorem dX2_readAnd_30 : decode cX2_readAnd 30 = .ok (.invokevirtual 32, 3) := by decide +kernel
theorem dX2_readAnd_33 : decode cX2_readAnd 33 = .ok (.aload_n 0, 1) := by decide +kernel
theorem dX2_readAnd_34 : decode cX2_readAnd 34 = .ok (.aload_n 1, 1) := by decide +kernel
theorem dX2_readAnd_35 : decode cX2_readAnd 35 = .ok (.invokevirtual 68, 3) := by decide +kernel
theorem dX2_readAnd_38 : decode cX2_readAnd 38 = .ok (.aload_n 1, 1) := by decide +kernel
theorem dX2_readAnd_39 : decode cX2_readAnd 39 = .ok (.bipush (-10), 2) := by decide +kernel
theorem dX2_readAnd_41 : decode cX2_readAnd 41 = .ok (.invokevirtual 65, 3) := by decide +kernel
theorem dX2_readAnd_44 : decode cX2_readAnd 44 = .ok (.iinc 2 1, 3) := by decide +kernel
theorem dX2_readAnd_47 : decode cX2_readAnd 47 = .ok (.goto (-40), 3) := by decide +kernel
theorem dX2_readAnd_50 : decode cX2_readAnd 50 = .ok (.return_, 1) := by decide +kernel
theorem dX2_readNot_0 : decode cX2_readNot 0 = .ok (.aload_n 0, 1) := by decide +kernel
theorem dX2_readNot_1 : decode cX2_readNot 1 = .ok (.bipush (-7), 2) := by decide +kernel
theorem dX2_readNot_3 : decode cX2_readNot 3 = .ok (.invokevirtual 71, 3) := by decide +kernel
theorem dX2_readNot_6 : decode cX2_readNot 6 = .ok (.istore_n 2, 1) := by decide +kernel
theorem dX2_readNot_7 : decode cX2_readNot 7 = .ok (.aload_n 0, 1) := by decide +kernel
theorem dX2_readNot_8 : decode cX2_readNot 8 = .ok (.aload_n 1, 1) := by decide +kernel
theorem dX2_readNot_9 : decode cX2_readNot 9 = .ok (.invokevirtual 75, 3) := by decide +kernel
theorem dX2_readNot_12 : decode cX2_readNot 12 = .ok (.aload_n 0, 1) := by decide +kernel
theorem dX2_readNot_13 : decode cX2_readNot 13 = .ok (.getfield 46, 3) := by decide +kernel
theorem dX2_readNot_16 : decode cX2_readNot 16 = .ok (.bipush 60, 2) := by decide +kernel
theorem dX2_readNot_18 : decode cX2_readNot 18 = .ok (.if_icmp .eq 12, 3) := by decide +kernel
theorem dX2_readNot_21 : decode cX2_readNot 21 = .ok (.aload_n 0, 1) := by decide +kernel
theorem dX2_readNot_22 : decode cX2_readNot 22 = .ok (.getfield 46, 3) := by decide +kernel
theorem dX2_readNot_25 : decode cX2_readNot 25 = .ok (.bipush 61, 2) := by decide +kernel
theorem dX2_readNot_27 : decode cX2_readNot 27 = .ok (.if_icmp .ne 40, 3) := by decide +kernel
theorem dX2_readNot_30 : decode cX2_readNot 30 = .ok (.aload_n 0, 1) := by decide +kernel
theorem dX2_readNot_31 : decode cX2_readNot 31 = .ok (.getfield 46, 3) := by decide +kernel
theorem dX2_readNot_34 : decode cX2_readNot 34 = .ok (.bipush 60, 2) := by decide +kernel
theorem dX2_readNot_36 : decode cX2_readNot 36 = .ok (.if_icmp .ne 8, 3) := by decide +kernel
theorem dX2_readNot_39 : decode cX2_readNot 39 = .ok (.bipush (-11), 2) := by decide +kernel
theorem dX2_readNot_41 : decode cX2_readNot 41 = .ok (.goto 5, 3) := by decide +kernel
theorem dX2_readNot_44 : decode cX2_readNot 44 = .ok (.bipush (-12), 2) := by decide +kernel
theorem dX2_readNot_46 : decode cX2_readNot 46 = .ok (.istore_n 3, 1) := by decide +kernel
theorem dX2_readNot_47 : decode cX2_readNot 47 = .ok (.aload_n 0, 1) := by decide +kernel
theorem dX2_readNot_48 : decode cX2_readNot 48 = .ok (.aload_n 0, 1) := by decide +kernel
theorem dX2_readNot_49 : decode cX2_readNot 49 = .ok (.getfield 62, 3) := by decide +kernel
theorem dX2_readNot_52 : decode cX2_readNot 52 = .ok (.iconst 1, 1) := by decide +kernel
theorem dX2_readNot_53 : decode cX2_readNot 53 = .ok (.iadd, 1) := by decide +kernel
theorem dX2_readNot_54 : decode cX2_readNot 54 = .ok (.invokevirtual 32, 3) := by decide +kernel
theorem dX2_readNot_57 : decode cX2_readNot 57 = .ok (.aload_n 0, 1) := by decide +kernel
theorem dX2_readNot_58 : decode cX2_readNot 58 = .ok (.aload_n 1, 1) := by decide +kernel
theorem dX2_readNot_59 : decode cX2_readNot 59 = .ok (.invokevirtual 75, 3) := by decide +kernel
theorem dX2_readNot_62 : decode cX2_readNot 62 = .ok (.aload_n 1, 1) := by decide +kernel
theorem dX2_readNot_63 : decode cX2_readNot 63 = .ok (.iload_n 3, 1) := by decide +kernel
theorem dX2_readNot_64 : decode cX2_readNot 64 = .ok (.invokevirtual 65, 3) := by decide +kernel
theorem dX2_readNot_67 : decode cX2_readNot 67 = .ok (.aload_n 0, 1) := by decide +kernel
theorem dX2_readNot_68 : decode cX2_readNot 68 = .ok (.iload_n 2, 1) := by decide +kernel
theorem dX2_readNot_69 : decode cX2_readNot 69 = .ok (.bipush (-7), 2) := by decide +kernel
theorem dX2_readNot_71 : decode cX2_readNot 71 = .ok (.aload_n 1, 1) := by decide +kernel
theorem dX2_readNot_72 : decode cX2_readNot 72 = .ok (.invokevirtual 78, 3) := by decide +kernel
theorem dX2_readNot_75 : decode cX2_readNot 75 = .ok (.return_, 1) := by decide +kernel
theorem dX2_readSum_0 : decode cX2_readSum 0 = .ok (.aload_n 0, 1) := by decide +kernel
theorem dX2_readSum_1 : decode cX2_readSum 1 = .ok (.aload_n 1, 1) := by decide +kernel
theorem dX2_readSum_2 : decode cX2_readSum 2 = .ok (.invokevirtual 82, 3) := by decide +kernel
theorem dX2_readSum_5 : decode cX2_readSum 5 = .ok (.iconst 0, 1) := by decide +kernel
theorem dX2_readSum_6 : decode cX2_readSum 6 = .ok (.istore_n 2, 1) := by decide +kernel
theorem dX2_readSum_7 : decode cX2_readSum 7 = .ok (.iload_n 2, 1) := by decide +kernel
theorem dX2_readSum_8 : decode cX2_readSum 8 = .ok (.sipush 160, 3) := by decide +kernel
theorem dX2_readSum_11 : decode cX2_readSum 11 = .ok (.if_icmp .ge 64, 3) := by decide +kernel
theorem dX2_readSum_14 : decode cX2_readSum 14 = .ok (.aload_n 0, 1) := by decide +kernel
theorem dX2_readSum_15 : decode cX2_readSum 15 = .ok (.getfield 46, 3) := by decide +kernel
theorem dX2_readSum_18 : decode cX2_readSum 18 = .ok (.bipush 43, 2) := by decide +kernel
theorem dX2_readSum_20 : decode cX2_readSum 20 = .ok (.if_icmp .eq 12, 3) := by decide +kernel
theorem dX2_readSum_23 : decode cX2_readSum 23 = .ok (.aload_n 0, 1) := by decide +kernel
theorem dX2_readSum_24 : decode cX2_readSum 24 = .ok (.getfield 46, 3) := by decide +kernel
theorem dX2_readSum_27 : decode cX2_readSum 27 = .ok (.bipush 45, 2) := by decide +kernel
theorem dX2_readSum_29 : decode cX2_readSum 29 = .ok (.if_icmp .ne 46, 3) := by decide +kernel
theorem dX2_readSum_32 : decode cX2_readSum 32 = .ok (.aload_n 0, 1) := by decide +kernel
theorem dX2_readSum_33 : decode cX2_readSum 33 = .ok (.getfield 46, 3) := by decide +kernel
theorem dX2_readSum_36 : decode cX2_readSum 36 = .ok (.bipush 43, 2) := by decide +kernel
theorem dX2_readSum_38 : decode cX2_readSum 38 = .ok (.if_icmp .ne 8, 3) := by decide +kernel
theorem dX2_readSum_41 : decode cX2_readSum 41 = .ok (.bipush (-13), 2) := by decide +kernel
theorem dX2_readSum_43 : decode cX2_readSum 43 = .ok (.goto 5, 3) := by decide +kernel
theorem dX2_readSum_46 : decode cX2_readSum 46 = .ok (.bipush (-14), 2) := by decide +kernel
theorem dX2_readSum_48 : decode cX2_readSum 48 = .ok (.istore_n 3, 1) := by decide +kernel
theorem dX2_readSum_49 : decode cX2_readSum 49 = .ok (.aload_n 0, 1) := by decide +kernel
theorem dX2_readSum_50 : decode cX2_readSum 50 = .ok (.aload_n 0, 1) := by decide +kernel
theorem dX2_readSum_51 : decode cX2_readSum 51 = .ok (.getfield 62, 3) := by decide +kernel
theorem dX2_readSum_54 : decode cX2_readSum 54 = .ok (.iconst 1, 1) := by decide +kernel
theorem dX2_readSum_55 : decode cX2_readSum 55 = .ok (.iadd, 1) := by decide +kernel
theorem dX2_readSum_56 : decode cX2_readSum 56 = .ok (.invokevirtual 32, 3) := by decide +kernel
theorem dX2_readSum_59 : decode cX2_readSum 59 = .ok (.aload_n 0, 1) := by decide +kernel
theorem dX2_readSum_60 : decode cX2_readSum 60 = .ok (.aload_n 1, 1) := by decide +kernel
theorem dX2_readSum_61 : decode cX2_readSum 61 = .ok (.invokevirtual 82, 3) := by decide +kernel
theorem dX2_readSum_64 : decode cX2_readSum 64 = .ok (.aload_n 1, 1) := by decide +kernel
theorem dX2_readSum_65 : decode cX2_readSum 65 = .ok (.iload_n 3, 1) := by decide +kernel
theorem dX2_readSum_66 : decode cX2_readSum 66 = .ok (.invokevirtual 65, 3) := by decide +kernel
theorem dX2_readSum_69 : decode cX2_readSum 69 = .ok (.iinc 2 1, 3) := by decide +kernel
theorem dX2_readSum_72 : decode cX2_readSum 72 = .ok (.goto (-65), 3) := by decide +kernel
theorem dX2_readSum_75 : decode cX2_readSum 75 = .ok (.return_, 1) := by decide +kernel
theorem dX2_readTerm_0 : decode cX2_readTerm 0 = .ok (.aload_n 0, 1) := by decide +kernel
theorem dX2_readTerm_1 : decode cX2_readTerm 1 = .ok (.aload_n 1, 1) := by decide +kernel
theorem dX2_readTerm_2 : decode cX2_readTerm 2 = .ok (.invokevirtual 85, 3) := by decide +kernel
theorem dX2_readTerm_5 : decode cX2_readTerm 5 = .ok (.iconst 0, 1) := by decide +kernel
theorem dX2_readTerm_6 : decode cX2_readTerm 6 = .ok (.istore_n 2, 1) := by decide +kernel
theorem dX2_readTerm_7 : decode cX2_readTerm 7 = .ok (.iload_n 2, 1) := by decide +kernel
theorem dX2_readTerm_8 : decode cX2_readTerm 8 = .ok (.sipush 160, 3) := by decide +kernel
theorem dX2_readTerm_11 : decode cX2_readTerm 11 = .ok (.if_icmp .ge 39, 3) := by decide +kernel
theorem dX2_readTerm_14 : decode cX2_readTerm 14 = .ok (.aload_n 0, 1) := by decide +kernel
theorem dX2_readTerm_15 : decode cX2_readTerm 15 = .ok (.getfield 46, 3) := by decide +kernel
theorem dX2_readTerm_18 : decode cX2_readTerm 18 = .ok (.bipush 42, 2) := by decide +kernel
theorem dX2_readTerm_20 : decode cX2_readTerm 20 = .ok (.if_icmp .ne 30, 3) := by decide +kernel
theorem dX2_readTerm_23 : decode cX2_readTerm 23 = .ok (.aload_n 0, 1) := by decide +kernel
theorem dX2_readTerm_24 : decode cX2_readTerm 24 = .ok (.aload_n 0, 1) := by decide +kernel
theorem dX2_readTerm_25 : decode cX2_readTerm 25 = .ok (.getfield 62, 3) := by decide +kernel
theorem dX2_readTerm_28 : decode cX2_readTerm 28 = .ok (.iconst 1, 1) := by decide +kernel
theorem dX2_readTerm_29 : decode cX2_readTerm 29 = .ok (.iadd, 1) := by decide +kernel
theorem dX2_readTerm_30 : decode cX2_readTerm 30 = .ok (.invokevirtual 32, 3) := by decide +kernel
theorem dX2_readTerm_33 : decode cX2_readTerm 33 = .ok (.aload_n 0, 1) := by decide +kernel
theorem dX2_readTerm_34 : decode cX2_readTerm 34 = .ok (.aload_n 1, 1) := by decide +kernel
theorem dX2_readTerm_35 : decode cX2_readTerm 35 = .ok (.invokevirtual 85, 3) := by decide +kernel
theorem dX2_readTerm_38 : decode cX2_readTerm 38 = .ok (.aload_n 1, 1) := by decide +kernel
theorem dX2_readTerm_39 : decode cX2_readTerm 39 = .ok (.bipush (-15), 2) := by decide +kernel
theorem dX2_readTerm_41 : decode cX2_readTerm 41 = .ok (.invokevirtual 65, 3) := by decide +kernel
theorem dX2_readTerm_44 : decode cX2_readTerm 44 = .ok (.iinc 2 1, 3) := by decide +kernel
theorem dX2_readTerm_47 : decode cX2_readTerm 47 = .ok (.goto (-40), 3) := by decide +kernel
theorem dX2_readTerm_50 : decode cX2_readTerm 50 = .ok (.return_, 1) := by decide +kernel
theorem dX2_readOne_0 : decode cX2_readOne 0 = .ok (.aload_n 0, 1) := by decide +kernel
theorem dX2_readOne_1 : decode cX2_readOne 1 = .ok (.bipush 45, 2) := by decide +kernel
theorem dX2_readOne_3 : decode cX2_readOne 3 = .ok (.invokevirtual 71, 3) := by decide +kernel
theorem dX2_readOne_6 : decode cX2_readOne 6 = .ok (.istore_n 2, 1) := by decide +kernel
theorem dX2_readOne_7 : decode cX2_readOne 7 = .ok (.aload_n 0, 1) := by decide +kernel
theorem dX2_readOne_8 : decode cX2_readOne 8 = .ok (.getfield 46, 3) := by decide +kernel
theorem dX2_readOne_11 : decode cX2_readOne 11 = .ok (.sipush 1000, 3) := by decide +kernel
theorem dX2_readOne_14 : decode cX2_readOne 14 = .ok (.if_icmp .lt 28, 3) := by decide +kernel
theorem dX2_readOne_17 : decode cX2_readOne 17 = .ok (.aload_n 1, 1) := by decide +kernel
theorem dX2_readOne_18 : decode cX2_readOne 18 = .ok (.aload_n 0, 1) := by decide +kernel
theorem dX2_readOne_19 : decode cX2_readOne 19 = .ok (.getfield 46, 3) := by decide +kernel
theorem dX2_readOne_22 : decode cX2_readOne 22 = .ok (.sipush 1000, 3) := by decide +kernel
theorem dX2_readOne_25 : decode cX2_readOne 25 = .ok (.isub, 1) := by decide +kernel
theorem dX2_readOne_26 : decode cX2_readOne 26 = .ok (.invokevirtual 65, 3) := by decide +kernel
theorem dX2_readOne_29 : decode cX2_readOne 29 = .ok (.aload_n 0, 1) := by decide +kernel
theorem dX2_readOne_30 : decode cX2_readOne 30 = .ok (.aload_n 0, 1) := by decide +kernel
theorem dX2_readOne_31 : decode cX2_readOne 31 = .ok (.getfield 62, 3) := by decide +kernel
theorem dX2_readOne_34 : decode cX2_readOne 34 = .ok (.iconst 1, 1) := by decide +kernel
theorem dX2_readOne_35 : decode cX2_readOne 35 = .ok (.iadd, 1) := by decide +kernel
theorem dX2_readOne_36 : decode cX2_readOne 36 = .ok (.invokevirtual 32, 3) := by decide +kernel
theorem dX2_readOne_39 : decode cX2_readOne 39 = .ok (.goto 106, 3) := by decide +kernel
theorem dX2_readOne_42 : decode cX2_readOne 42 = .ok (.aload_n 0, 1) := by decide +kernel
theorem dX2_readOne_43 : decode cX2_readOne 43 = .ok (.getfield 46, 3) := by decide +kernel
theorem dX2_readOne_46 : decode cX2_readOne 46 = .ok (.iconst (-1), 1) := by decide +kernel
theorem dX2_readOne_47 : decode cX2_readOne 47 = .ok (.if_icmp .gt 33, 3) := by decide +kernel
theorem dX2_readOne_50 : decode cX2_readOne 50 = .ok (.aload_n 0, 1) := by decide +kernel
theorem dX2_readOne_51 : decode cX2_readOne 51 = .ok (.getfield 46, 3) := by decide +kernel
theorem dX2_readOne_54 : decode cX2_readOne 54 = .ok (.bipush (-6), 2) := by decide +kernel
theorem dX2_readOne_56 : decode cX2_readOne 56 = .ok (.if_icmp .lt 24, 3) := by decide +kernel
theorem dX2_readOne_59 : decode cX2_readOne 59 = .ok (.aload_n 1, 1) := by decide +kernel
theorem dX2_readOne_60 : decode cX2_readOne 60 = .ok (.aload_n 0, 1) := by decide +kernel
theorem dX2_readOne_61 : decode cX2_readOne 61 = .ok (.getfield 46, 3) := by decide +kernel
theorem dX2_readOne_64 : decode cX2_readOne 64 = .ok (.invokevirtual 65, 3) := by decide +kernel
theorem dX2_readOne_67 : decode cX2_readOne 67 = .ok (.aload_n 0, 1) := by decide +kernel
theorem dX2_readOne_68 : decode cX2_readOne 68 = .ok (.aload_n 0, 1) := by decide +kernel
theorem dX2_readOne_69 : decode cX2_readOne 69 = .ok (.getfield 62, 3) := by decide +kernel
theorem dX2_readOne_72 : decode cX2_readOne 72 = .ok (.iconst 1, 1) := by decide +kernel
theorem dX2_readOne_73 : decode cX2_readOne 73 = .ok (.iadd, 1) := by decide +kernel
theorem dX2_readOne_74 : decode cX2_readOne 74 = .ok (.invokevirtual 32, 3) := by decide +kernel
theorem dX2_readOne_77 : decode cX2_readOne 77 = .ok (.goto 68, 3) := by decide +kernel
theorem dX2_readOne_80 : decode cX2_readOne 80 = .ok (.aload_n 0, 1) := by decide +kernel
theorem dX2_readOne_81 : decode cX2_readOne 81 = .ok (.getfield 46, 3) := by decide +kernel
theorem dX2_readOne_84 : decode cX2_readOne 84 = .ok (.bipush 40, 2) := by decide +kernel
theorem dX2_readOne_86 : decode cX2_readOne 86 = .ok (.if_icmp .ne 55, 3) := by decide +kernel
theorem dX2_readOne_89 : decode cX2_readOne 89 = .ok (.aload_n 0, 1) := by decide +kernel
theorem dX2_readOne_90 : decode cX2_readOne 90 = .ok (.getfield 25, 3) := by decide +kernel
theorem dX2_readOne_93 : decode cX2_readOne 93 = .ok (.iconst 5, 1) := by decide +kernel
theorem dX2_readOne_94 : decode cX2_readOne 94 = .ok (.if_icmp .ge 47, 3) := by decide +kernel
theorem dX2_readOne_97 : decode cX2_readOne 97 = .ok (.aload_n 0, 1) := by decide +kernel
theorem dX2_readOne_98 : decode cX2_readOne 98 = .ok (.dup, 1) := by decide +kernel
theorem dX2_readOne_99 : decode cX2_readOne 99 = .ok (.getfield 25, 3) := by decide +kernel
theorem dX2_readOne_102 : decode cX2_readOne 102 = .ok (.iconst 1, 1) := by decide +kernel
theorem dX2_readOne_103 : decode cX2_readOne 103 = .ok (.iadd, 1) := by decide +kernel
theorem dX2_readOne_104 : decode cX2_readOne 104 = .ok (.putfield 25, 3) := by decide +kernel
theorem dX2_readOne_107 : decode cX2_readOne 107 = .ok (.aload_n 0, 1) := by decide +kernel
theorem dX2_readOne_108 : decode cX2_readOne 108 = .ok (.aload_n 0, 1) := by decide +kernel
theorem dX2_readOne_109 : decode cX2_readOne 109 = .ok (.getfield 62, 3) := by decide +kernel
theorem dX2_readOne_112 : decode cX2_readOne 112 = .ok (.iconst 1, 1) := by decide +kernel
theorem dX2_readOne_113 : decode cX2_readOne 113 = .ok (.iadd, 1) := by decide +kernel
theorem dX2_readOne_114 : decode cX2_readOne 114 = .ok (.invokevirtual 32, 3) := by decide +kernel
theorem dX2_readOne_117 : decode cX2_readOne 117 = .ok (.aload_n 0, 1) := by decide +kernel
theorem dX2_readOne_118 : decode cX2_readOne 118 = .ok (.aload_n 1, 1) := by decide +kernel
theorem dX2_readOne_119 : decode cX2_readOne 119 = .ok (.invokevirtual 55, 3) := by decide +kernel
theorem dX2_readOne_122 : decode cX2_readOne 122 = .ok (.aload_n 0, 1) := by decide +kernel
theorem dX2_readOne_123 : decode cX2_readOne 123 = .ok (.bipush 41, 2) := by decide +kernel
theorem dX2_readOne_125 : decode cX2_readOne 125 = .ok (.invokevirtual 52, 3) := by decide +kernel
theorem dX2_readOne_128 : decode cX2_readOne 128 = .ok (.aload_n 0, 1) := by decide +kernel
theorem dX2_readOne_129 : decode cX2_readOne 129 = .ok (.dup, 1) := by decide +kernel
theorem dX2_readOne_130 : decode cX2_readOne 130 = .ok (.getfield 25, 3) := by decide +kernel
theorem dX2_readOne_133 : decode cX2_readOne 133 = .ok (.iconst 1, 1) := by decide +kernel
theorem dX2_readOne_134 : decode cX2_readOne 134 = .ok (.isub, 1) := by decide +kernel
theorem dX2_readOne_135 : decode cX2_readOne 135 = .ok (.putfield 25, 3) := by decide +kernel
theorem dX2_readOne_138 : decode cX2_readOne 138 = .ok (.goto 7, 3) := by decide +kernel
theorem dX2_readOne_141 : decode cX2_readOne 141 = .ok (.aload_n 0, 1) := by decide +kernel
theorem dX2_readOne_142 : decode cX2_readOne 142 = .ok (.invokevirtual 49, 3) := by decide +kernel
theorem dX2_readOne_145 : decode cX2_readOne 145 = .ok (.aload_n 0, 1) := by decide +kernel
theorem dX2_readOne_146 : decode cX2_readOne 146 = .ok (.iload_n 2, 1) := by decide +kernel
theorem dX2_readOne_147 : decode cX2_readOne 147 = .ok (.bipush (-8), 2) := by decide +kernel
theorem dX2_readOne_149 : decode cX2_readOne 149 = .ok (.aload_n 1, 1) := by decide +kernel
theorem dX2_readOne_150 : decode cX2_readOne 150 = .ok (.invokevirtual 78, 3) := by decide +kernel
theorem dX2_readOne_153 : decode cX2_readOne 153 = .ok (.return_, 1) := by decide +kernel
theorem dX2_openAll_0 : decode cX2_openAll 0 = .ok (.iconst 0, 1) := by decide +kernel
theorem dX2_openAll_1 : decode cX2_openAll 1 = .ok (.istore_n 2, 1) := by decide +kernel
theorem dX2_openAll_2 : decode cX2_openAll 2 = .ok (.iconst 0, 1) := by decide +kernel
theorem dX2_openAll_3 : decode cX2_openAll 3 = .ok (.istore_n 3, 1) := by decide +kernel
theorem dX2_openAll_4 : decode cX2_openAll 4 = .ok (.iload_n 3, 1) := by decide +kernel
theorem dX2_openAll_5 : decode cX2_openAll 5 = .ok (.sipush 160, 3) := by decide +kernel
theorem dX2_openAll_8 : decode cX2_openAll 8 = .ok (.if_icmp .ge 55, 3) := by decide +kernel
theorem dX2_openAll_11 : decode cX2_openAll 11 = .ok (.aload_n 0, 1) := by decide +kernel
theorem dX2_openAll_12 : decode cX2_openAll 12 = .ok (.getfield 46, 3) := by decide +kernel
theorem dX2_openAll_15 : decode cX2_openAll 15 = .ok (.iload_n 1, 1) := by decide +kernel
theorem dX2_openAll_16 : decode cX2_openAll 16 = .ok (.if_icmp .ne 47, 3) := by decide +kernel
theorem dX2_openAll_19 : decode cX2_openAll 19 = .ok (.aload_n 0, 1) := by decide +kernel
theorem dX2_openAll_20 : decode cX2_openAll 20 = .ok (.getfield 25, 3) := by decide +kernel
theorem dX2_openAll_23 : decode cX2_openAll 23 = .ok (.iconst 5, 1) := by decide +kernel
theorem dX2_openAll_24 : decode cX2_openAll 24 = .ok (.if_icmp .ge 29, 3) := by decide +kernel
theorem dX2_openAll_27 : decode cX2_openAll 27 = .ok (.aload_n 0, 1) := by decide +kernel
theorem dX2_openAll_28 : decode cX2_openAll 28 = .ok (.dup, 1) := by decide +kernel
theorem dX2_openAll_29 : decode cX2_openAll 29 = .ok (.getfield 25, 3) := by decide +kernel
theorem dX2_openAll_32 : decode cX2_openAll 32 = .ok (.iconst 1, 1) := by decide +kernel
theorem dX2_openAll_33 : decode cX2_openAll 33 = .ok (.iadd, 1) := by decide +kernel
theorem dX2_openAll_34 : decode cX2_openAll 34 = .ok (.putfield 25, 3) := by decide +kernel
theorem dX2_openAll_37 : decode cX2_openAll 37 = .ok (.iinc 2 1, 3) := by decide +kernel
theorem dX2_openAll_40 : decode cX2_openAll 40 = .ok (.aload_n 0, 1) := by decide +kernel
theorem dX2_openAll_41 : decode cX2_openAll 41 = .ok (.aload_n 0, 1) := by decide +kernel
theorem dX2_openAll_42 : decode cX2_openAll 42 = .ok (.getfield 62, 3) := by decide +kernel
theorem dX2_openAll_45 : decode cX2_openAll 45 = .ok (.iconst 1, 1) := by decide +kernel
theorem dX2_openAll_46 : decode cX2_openAll 46 = .ok (.iadd, 1) := by decide +kernel
theorem dX2_openAll_47 : decode cX2_openAll 47 = .ok (.invokevirtual 32, 3) := by decide +kernel
theorem dX2_openAll_50 : decode cX2_openAll 50 = .ok (.goto 7, 3) := by decide +kernel
theorem dX2_openAll_53 : decode cX2_openAll 53 = .ok (.aload_n 0, 1) := by decide +kernel
theorem dX2_openAll_54 : decode cX2_openAll 54 = .ok (.invokevirtual 49, 3) := by decide +kernel
theorem dX2_openAll_57 : decode cX2_openAll 57 = .ok (.iinc 3 1, 3) := by decide +kernel
theorem dX2_openAll_60 : decode cX2_openAll 60 = .ok (.goto (-56), 3) := by decide +kernel
theorem dX2_openAll_63 : decode cX2_openAll 63 = .ok (.iload_n 2, 1) := by decide +kernel
theorem dX2_openAll_64 : decode cX2_openAll 64 = .ok (.ireturn, 1) := by decide +kernel
theorem dX2_closeAll_0 : decode cX2_closeAll 0 = .ok (.aload_n 0, 1) := by decide +kernel
theorem dX2_closeAll_1 : decode cX2_closeAll 1 = .ok (.dup, 1) := by decide +kernel
theorem dX2_closeAll_2 : decode cX2_closeAll 2 = .ok (.getfield 25, 3) := by decide +kernel
theorem dX2_closeAll_5 : decode cX2_closeAll 5 = .ok (.iload_n 1, 1) := by decide +kernel
theorem dX2_closeAll_6 : decode cX2_closeAll 6 = .ok (.isub, 1) := by decide +kernel
theorem dX2_closeAll_7 : decode cX2_closeAll 7 = .ok (.putfield 25, 3) := by decide +kernel
theorem dX2_closeAll_10 : decode cX2_closeAll 10 = .ok (.iconst 0, 1) := by decide +kernel
theorem dX2_closeAll_11 : decode cX2_closeAll 11 = .ok (.istore 4, 2) := by decide +kernel
theorem dX2_closeAll_13 : decode cX2_closeAll 13 = .ok (.iload 4, 2) := by decide +kernel
theorem dX2_closeAll_15 : decode cX2_closeAll 15 = .ok (.iload_n 1, 1) := by decide +kernel
theorem dX2_closeAll_16 : decode cX2_closeAll 16 = .ok (.if_icmp .ge 14, 3) := by decide +kernel
theorem dX2_closeAll_19 : decode cX2_closeAll 19 = .ok (.aload_n 3, 1) := by decide +kernel
theorem dX2_closeAll_20 : decode cX2_closeAll 20 = .ok (.iload_n 2, 1) := by decide +kernel
theorem dX2_closeAll_21 : decode cX2_closeAll 21 = .ok (.invokevirtual 65, 3) := by decide +kernel
theorem dX2_closeAll_24 : decode cX2_closeAll 24 = .ok (.iinc 4 1, 3) := by decide +kernel
theorem dX2_closeAll_27 : decode cX2_closeAll 27 = .ok (.goto (-14), 3) := by decide +kernel
theorem dX2_closeAll_30 : decode cX2_closeAll 30 = .ok (.return_, 1) := by decide +kernel
theorem dX2_expect_0 : decode cX2_expect 0 = .ok (.aload_n 0, 1) := by decide +kernel
theorem dX2_expect_1 : decode cX2_expect 1 = .ok (.getfield 46, 3) := by decide +kernel
theorem dX2_expect_4 : decode cX2_expect 4 = .ok (.iload_n 1, 1) := by decide +kernel
theorem dX2_expect_5 : decode cX2_expect 5 = .ok (.if_icmp .ne 16, 3) := by decide +kernel
theorem dX2_expect_8 : decode cX2_expect 8 = .ok (.aload_n 0, 1) := by decide +kernel
theorem dX2_expect_9 : decode cX2_expect 9 = .ok (.aload_n 0, 1) := by decide +kernel
theorem dX2_expect_10 : decode cX2_expect 10 = .ok (.getfield 62, 3) := by decide +kernel
theorem dX2_expect_13 : decode cX2_expect 13 = .ok (.iconst 1, 1) := by decide +kernel
theorem dX2_expect_14 : decode cX2_expect 14 = .ok (.iadd, 1) := by decide +kernel
theorem dX2_expect_15 : decode cX2_expect 15 = .ok (.invokevirtual 32, 3) := by decide +kernel
theorem dX2_expect_18 : decode cX2_expect 18 = .ok (.goto 7, 3) := by decide +kernel
theorem dX2_expect_21 : decode cX2_expect 21 = .ok (.aload_n 0, 1) := by decide +kernel
theorem dX2_expect_22 : decode cX2_expect 22 = .ok (.invokevirtual 49, 3) := by decide +kernel
theorem dX2_expect_25 : decode cX2_expect 25 = .ok (.return_, 1) := by decide +kernel
theorem dX2_goTo_0 : decode cX2_goTo 0 = .ok (.iload_n 1, 1) := by decide +kernel
theorem dX2_goTo_1 : decode cX2_goTo 1 = .ok (.ifCond .lt 31, 3) := by decide +kernel
theorem dX2_goTo_4 : decode cX2_goTo 4 = .ok (.iload_n 1, 1) := by decide +kernel
theorem dX2_goTo_5 : decode cX2_goTo 5 = .ok (.sipush 160, 3) := by decide +kernel
theorem dX2_goTo_8 : decode cX2_goTo 8 = .ok (.if_icmp .gt 24, 3) := by decide +kernel
theorem dX2_goTo_11 : decode cX2_goTo 11 = .ok (.aload_n 0, 1) := by decide +kernel
theorem dX2_goTo_12 : decode cX2_goTo 12 = .ok (.iload_n 1, 1) := by decide +kernel
theorem dX2_goTo_13 : decode cX2_goTo 13 = .ok (.putfield 62, 3) := by decide +kernel
theorem dX2_goTo_16 : decode cX2_goTo 16 = .ok (.aload_n 0, 1) := by decide +kernel
theorem dX2_goTo_17 : decode cX2_goTo 17 = .ok (.aload_n 0, 1) := by decide +kernel
theorem dX2_goTo_18 : decode cX2_goTo 18 = .ok (.getfield 9, 3) := by decide +kernel
theorem dX2_goTo_21 : decode cX2_goTo 21 = .ok (.getfield 88, 3) := by decide +kernel
theorem dX2_goTo_24 : decode cX2_goTo 24 = .ok (.aload_n 0, 1) := by decide +kernel
theorem dX2_goTo_25 : decode cX2_goTo 25 = .ok (.getfield 62, 3) := by decide +kernel
theorem dX2_goTo_28 : decode cX2_goTo 28 = .ok (.iaload, 1) := by decide +kernel
theorem dX2_goTo_29 : decode cX2_goTo 29 = .ok (.putfield 46, 3) := by decide +kernel
theorem dX2_goTo_32 : decode cX2_goTo 32 = .ok (.return_, 1) := by decide +kernel
theorem dX2_fail_0 : decode cX2_fail 0 = .ok (.aload_n 0, 1) := by decide +kernel
theorem dX2_fail_1 : decode cX2_fail 1 = .ok (.getfield 29, 3) := by decide +kernel
theorem dX2_fail_4 : decode cX2_fail 4 = .ok (.iconst (-1), 1) := by decide +kernel
theorem dX2_fail_5 : decode cX2_fail 5 = .ok (.if_icmp .ne 36, 3) := by decide +kernel
theorem dX2_fail_8 : decode cX2_fail 8 = .ok (.aload_n 0, 1) := by decide +kernel
theorem dX2_fail_9 : decode cX2_fail 9 = .ok (.getfield 62, 3) := by decide +kernel
theorem dX2_fail_12 : decode cX2_fail 12 = .ok (.ifCond .lt 29, 3) := by decide +kernel
theorem dX2_fail_15 : decode cX2_fail 15 = .ok (.aload_n 0, 1) := by decide +kernel
theorem dX2_fail_16 : decode cX2_fail 16 = .ok (.getfield 62, 3) := by decide +kernel
theorem dX2_fail_19 : decode cX2_fail 19 = .ok (.sipush 160, 3) := by decide +kernel
theorem dX2_fail_22 : decode cX2_fail 22 = .ok (.if_icmp .gt 19, 3) := by decide +kernel
theorem dX2_fail_25 : decode cX2_fail 25 = .ok (.aload_n 0, 1) := by decide +kernel
theorem dX2_fail_26 : decode cX2_fail 26 = .ok (.aload_n 0, 1) := by decide +kernel
theorem dX2_fail_27 : decode cX2_fail 27 = .ok (.getfield 9, 3) := by decide +kernel
theorem dX2_fail_30 : decode cX2_fail 30 = .ok (.getfield 92, 3) := by decide +kernel
theorem dX2_fail_33 : decode cX2_fail 33 = .ok (.aload_n 0, 1) := by decide +kernel
theorem dX2_fail_34 : decode cX2_fail 34 = .ok (.getfield 62, 3) := by decide +kernel
theorem dX2_fail_37 : decode cX2_fail 37 = .ok (.iaload, 1) := by decide +kernel
theorem dX2_fail_38 : decode cX2_fail 38 = .ok (.putfield 29, 3) := by decide +kernel
theorem dX2_fail_41 : decode cX2_fail 41 = .ok (.aload_n 0, 1) := by decide +kernel
theorem dX2_fail_42 : decode cX2_fail 42 = .ok (.iconst 2, 1) := by decide +kernel
theorem dX2_fail_43 : decode cX2_fail 43 = .ok (.putfield 46, 3) := by decide +kernel
theorem dX2_fail_46 : decode cX2_fail 46 = .ok (.return_, 1) := by decide +kernel
theorem dX3_init_0 : decode cX3_init 0 = .ok (.aload_n 0, 1) := by decide +kernel
theorem dX3_init_1 : decode cX3_init 1 = .ok (.invokespecial 3, 3) := by decide +kernel
theorem dX3_init_4 : decode cX3_init 4 = .ok (.aload_n 0, 1) := by decide +kernel
theorem dX3_init_5 : decode cX3_init 5 = .ok (.bipush 40, 2) := by decide +kernel
theorem dX3_init_7 : decode cX3_init 7 = .ok (.newarray .int, 2) := by decide +kernel
theorem dX3_init_9 : decode cX3_init 9 = .ok (.putfield 9, 3) := by decide +kernel
theorem dX3_init_12 : decode cX3_init 12 = .ok (.aload_n 0, 1) := by decide +kernel
theorem dX3_init_13 : decode cX3_init 13 = .ok (.iconst (-1), 1) := by decide +kernel
theorem dX3_init_14 : decode cX3_init 14 = .ok (.putfield 15, 3) := by decide +kernel
theorem dX3_init_17 : decode cX3_init 17 = .ok (.return_, 1) := by decide +kernel
theorem dX3_become_0 : decode cX3_become 0 = .ok (.aload_n 0, 1) := by decide +kernel
theorem dX3_become_1 : decode cX3_become 1 = .ok (.iload_n 1, 1) := by decide +kernel
theorem dX3_become_2 : decode cX3_become 2 = .ok (.putfield 15, 3) := by decide +kernel
theorem dX3_become_5 : decode cX3_become 5 = .ok (.aload_n 0, 1) := by decide +kernel
theorem dX3_become_6 : decode cX3_become 6 = .ok (.iconst 0, 1) := by decide +kernel
theorem dX3_become_7 : decode cX3_become 7 = .ok (.bipush 40, 2) := by decide +kernel
theorem dX3_become_9 : decode cX3_become 9 = .ok (.iload_n 2, 1) := by decide +kernel
theorem dX3_become_10 : decode cX3_become 10 = .ok (.invokestatic 19, 3) := by decide +kernel
theorem dX3_become_13 : decode cX3_become 13 = .ok (.invokestatic 25, 3) := by decide +kernel
theorem dX3_become_16 : decode cX3_become 16 = .ok (.putfield 28, 3) := by decide +kernel
theorem dX3_become_19 : decode cX3_become 19 = .ok (.iconst 0, 1) := by decide +kernel
theorem dX3_become_20 : decode cX3_become 20 = .ok (.istore_n 3, 1) := by decide +kernel
theorem dX3_become_21 : decode cX3_become 21 = .ok (.iload_n 3, 1) := by decide +kernel
theorem dX3_become_22 : decode cX3_become 22 = .ok (.bipush 40, 2) := by decide +kernel
theorem dX3_become_24 : decode cX3_become 24 = .ok (.if_icmp .ge 16, 3) := by decide +kernel
theorem dX3_become_27 : decode cX3_become 27 = .ok (.aload_n 0, 1) := by decide +kernel
theorem dX3_become_28 : decode cX3_become 28 = .ok (.getfield 9, 3) := by decide +kernel
theorem dX3_become_31 : decode cX3_become 31 = .ok (.iload_n 3, 1) := by decide +kernel
theorem dX3_become_32 : decode cX3_become 32 = .ok (.iconst 0, 1) := by decide +kernel
theorem dX3_become_33 : decode cX3_become 33 = .ok (.iastore, 1) := by decide +kernel
theorem dX3_become_34 : decode cX3_become 34 = .ok (.iinc 3 1, 3) := by decide +kernel
theorem dX3_become_37 : decode cX3_become 37 = .ok (.goto (-16), 3) := by decide +kernel
theorem dX3_become_40 : decode cX3_become 40 = .ok (.return_, 1) := by decide +kernel
theorem dX3_isMissing_0 : decode cX3_isMissing 0 = .ok (.aload_n 0, 1) := by decide +kernel
theorem dX3_isMissing_1 : decode cX3_isMissing 1 = .ok (.getfield 15, 3) := by decide +kernel
theorem dX3_isMissing_4 : decode cX3_isMissing 4 = .ok (.iconst (-1), 1) := by decide +kernel
theorem dX3_isMissing_5 : decode cX3_isMissing 5 = .ok (.if_icmp .ne 7, 3) := by decide +kernel
theorem dX3_isMissing_8 : decode cX3_isMissing 8 = .ok (.iconst 1, 1) := by decide +kernel
theorem dX3_isMissing_9 : decode cX3_isMissing 9 = .ok (.goto 4, 3) := by decide +kernel
theorem dX3_isMissing_12 : decode cX3_isMissing 12 = .ok (.iconst 0, 1) := by decide +kernel
theorem dX3_isMissing_13 : decode cX3_isMissing 13 = .ok (.ireturn, 1) := by decide +kernel
theorem dX3_spans_0 : decode cX3_spans 0 = .ok (.iload_n 1, 1) := by decide +kernel
theorem dX3_spans_1 : decode cX3_spans 1 = .ok (.ifCond .lt 21, 3) := by decide +kernel
theorem dX3_spans_4 : decode cX3_spans 4 = .ok (.iload_n 2, 1) := by decide +kernel
theorem dX3_spans_5 : decode cX3_spans 5 = .ok (.ifCond .lt 17, 3) := by decide +kernel
theorem dX3_spans_8 : decode cX3_spans 8 = .ok (.iload_n 1, 1) := by decide +kernel
theorem dX3_spans_9 : decode cX3_spans 9 = .ok (.aload_n 0, 1) := by decide +kernel
theorem dX3_spans_10 : decode cX3_spans 10 = .ok (.getfield 28, 3) := by decide +kernel
theorem dX3_spans_13 : decode cX3_spans 13 = .ok (.iload_n 2, 1) := by decide +kernel
theorem dX3_spans_14 : decode cX3_spans 14 = .ok (.isub, 1) := by decide +kernel
theorem dX3_spans_15 : decode cX3_spans 15 = .ok (.if_icmp .gt 7, 3) := by decide +kernel
theorem dX3_spans_18 : decode cX3_spans 18 = .ok (.iconst 1, 1) := by decide +kernel
theorem dX3_spans_19 : decode cX3_spans 19 = .ok (.goto 4, 3) := by decide +kernel
theorem dX3_spans_22 : decode cX3_spans 22 = .ok (.iconst 0, 1) := by decide +kernel
theorem dX3_spans_23 : decode cX3_spans 23 = .ok (.ireturn, 1) := by decide +kernel
theorem dX3_item_0 : decode cX3_item 0 = .ok (.iload_n 1, 1) := by decide +kernel
theorem dX3_item_1 : decode cX3_item 1 = .ok (.ifCond .lt 26, 3) := by decide +kernel
theorem dX3_item_4 : decode cX3_item 4 = .ok (.iload_n 1, 1) := by decide +kernel
theorem dX3_item_5 : decode cX3_item 5 = .ok (.aload_n 0, 1) := by decide +kernel
theorem dX3_item_6 : decode cX3_item 6 = .ok (.getfield 28, 3) := by decide +kernel
theorem dX3_item_9 : decode cX3_item 9 = .ok (.if_icmp .ge 18, 3) := by decide +kernel
theorem dX3_item_12 : decode cX3_item 12 = .ok (.iload_n 1, 1) := by decide +kernel
theorem dX3_item_13 : decode cX3_item 13 = .ok (.bipush 40, 2) := by decide +kernel
theorem dX3_item_15 : decode cX3_item 15 = .ok (.if_icmp .ge 12, 3) := by decide +kernel
theorem dX3_item_18 : decode cX3_item 18 = .ok (.aload_n 0, 1) := by decide +kernel
theorem dX3_item_19 : decode cX3_item 19 = .ok (.getfield 9, 3) := by decide +kernel
theorem dX3_item_22 : decode cX3_item 22 = .ok (.iload_n 1, 1) := by decide +kernel
theorem dX3_item_23 : decode cX3_item 23 = .ok (.iaload, 1) := by decide +kernel
theorem dX3_item_24 : decode cX3_item 24 = .ok (.goto 4, 3) := by decide +kernel
theorem dX3_item_27 : decode cX3_item 27 = .ok (.iconst 0, 1) := by decide +kernel
theorem dX3_item_28 : decode cX3_item 28 = .ok (.ireturn, 1) := by decide +kernel
theorem dX3_put_0 : decode cX3_put 0 = .ok (.iload_n 1, 1) := by decide +kernel
theorem dX3_put_1 : decode cX3_put 1 = .ok (.ifCond .lt 17, 3) := by decide +kernel
theorem dX3_put_4 : decode cX3_put 4 = .ok (.iload_n 1, 1) := by decide +kernel
theorem dX3_put_5 : decode cX3_put 5 = .ok (.aload_n 0, 1) := by decide +kernel
theorem dX3_put_6 : decode cX3_put 6 = .ok (.getfield 28, 3) := by decide +kernel
theorem dX3_put_9 : decode cX3_put 9 = .ok (.if_icmp .ge 9, 3) := by decide +kernel
theorem dX3_put_12 : decode cX3_put 12 = .ok (.iload_n 1, 1) := by decide +kernel
theorem dX3_put_13 : decode cX3_put 13 = .ok (.bipush 40, 2) := by decide +kernel
theorem dX3_put_15 : decode cX3_put 15 = .ok (.if_icmp .lt 5, 3) := by decide +kernel
theorem dX3_put_18 : decode cX3_put 18 = .ok (.iconst 0, 1) := by decide +kernel
theorem dX3_put_19 : decode cX3_put 19 = .ok (.ireturn, 1) := by decide +kernel
theorem dX3_put_20 : decode cX3_put 20 = .ok (.aload_n 0, 1) := by decide +kernel
theorem dX3_put_21 : decode cX3_put 21 = .ok (.getfield 15, 3) := by decide +kernel
theorem dX3_put_24 : decode cX3_put 24 = .ok (.ifCond .ne 14, 3) := by decide +kernel
theorem dX3_put_27 : decode cX3_put 27 = .ok (.aload_n 0, 1) := by decide +kernel
theorem dX3_put_28 : decode cX3_put 28 = .ok (.getfield 9, 3) := by decide +kernel
theorem dX3_put_31 : decode cX3_put 31 = .ok (.iload_n 1, 1) := by decide +kernel
theorem dX3_put_32 : decode cX3_put 32 = .ok (.iload_n 2, 1) := by decide +kernel
theorem dX3_put_33 : decode cX3_put 33 = .ok (.i2b, 1) := by decide +kernel
theorem dX3_put_34 : decode cX3_put 34 = .ok (.iastore, 1) := by decide +kernel
theorem dX3_put_35 : decode cX3_put 35 = .ok (.goto 29, 3) := by decide +kernel
theorem dX3_put_38 : decode cX3_put 38 = .ok (.aload_n 0, 1) := by decide +kernel
theorem dX3_put_39 : decode cX3_put 39 = .ok (.getfield 15, 3) := by decide +kernel
theorem dX3_put_42 : decode cX3_put 42 = .ok (.iconst 1, 1) := by decide +kernel
theorem dX3_put_43 : decode cX3_put 43 = .ok (.if_icmp .ne 14, 3) := by decide +kernel
theorem dX3_put_46 : decode cX3_put 46 = .ok (.aload_n 0, 1) := by decide +kernel
theorem dX3_put_47 : decode cX3_put 47 = .ok (.getfield 9, 3) := by decide +kernel
theorem dX3_put_50 : decode cX3_put 50 = .ok (.iload_n 1, 1) := by decide +kernel
theorem dX3_put_51 : decode cX3_put 51 = .ok (.iload_n 2, 1) := by decide +kernel
theorem dX3_put_52 : decode cX3_put 52 = .ok (.i2s, 1) := by decide +kernel
theorem dX3_put_53 : decode cX3_put 53 = .ok (.iastore, 1) := by decide +kernel
theorem dX3_put_54 : decode cX3_put 54 = .ok (.goto 10, 3) := by decide +kernel
theorem dX3_put_57 : decode cX3_put 57 = .ok (.aload_n 0, 1) := by decide +kernel
theorem dX3_put_58 : decode cX3_put 58 = .ok (.getfield 9, 3) := by decide +kernel
theorem dX3_put_61 : decode cX3_put 61 = .ok (.iload_n 1, 1) := by decide +kernel
theorem dX3_put_62 : decode cX3_put 62 = .ok (.iload_n 2, 1) := by decide +kernel
theorem dX3_put_63 : decode cX3_put 63 = .ok (.iastore, 1) := by decide +kernel
theorem dX3_put_64 : decode cX3_put 64 = .ok (.iconst 1, 1) := by decide +kernel
theorem dX3_put_65 : decode cX3_put 65 = .ok (.ireturn, 1) := by decide +kernel
theorem dX4_init_0 : decode cX4_init 0 = .ok (.aload_n 0, 1) := by decide +kernel
theorem dX4_init_1 : decode cX4_init 1 = .ok (.invokespecial 3, 3) := by decide +kernel
theorem dX4_init_4 : decode cX4_init 4 = .ok (.aload_n 0, 1) := by decide +kernel
theorem dX4_init_5 : decode cX4_init 5 = .ok (.bipush 8, 2) := by decide +kernel
theorem dX4_init_7 : decode cX4_init 7 = .ok (.anewarray 9, 3) := by decide +kernel
theorem dX4_init_10 : decode cX4_init 10 = .ok (.putfield 11, 3) := by decide +kernel
theorem dX4_init_13 : decode cX4_init 13 = .ok (.aload_n 0, 1) := by decide +kernel
theorem dX4_init_14 : decode cX4_init 14 = .ok (.aload_n 1, 1) := by decide +kernel
theorem dX4_init_15 : decode cX4_init 15 = .ok (.putfield 17, 3) := by decide +kernel
theorem dX4_init_18 : decode cX4_init 18 = .ok (.iconst 0, 1) := by decide +kernel
theorem dX4_init_19 : decode cX4_init 19 = .ok (.istore_n 2, 1) := by decide +kernel
theorem dX4_init_20 : decode cX4_init 20 = .ok (.iload_n 2, 1) := by decide +kernel
theorem dX4_init_21 : decode cX4_init 21 = .ok (.bipush 8, 2) := by decide +kernel
theorem dX4_init_23 : decode cX4_init 23 = .ok (.if_icmp .ge 22, 3) := by decide +kernel
theorem dX4_init_26 : decode cX4_init 26 = .ok (.aload_n 0, 1) := by decide +kernel
theorem dX4_init_27 : decode cX4_init 27 = .ok (.getfield 11, 3) := by decide +kernel
theorem dX4_init_30 : decode cX4_init 30 = .ok (.iload_n 2, 1) := by decide +kernel
theorem dX4_init_31 : decode cX4_init 31 = .ok (.new 9, 3) := by decide +kernel
theorem dX4_init_34 : decode cX4_init 34 = .ok (.dup, 1) := by decide +kernel
theorem dX4_init_35 : decode cX4_init 35 = .ok (.invokespecial 21, 3) := by decide +kernel
theorem dX4_init_38 : decode cX4_init 38 = .ok (.aastore, 1) := by decide +kernel
theorem dX4_init_39 : decode cX4_init 39 = .ok (.iinc 2 1, 3) := by decide +kernel
theorem dX4_init_42 : decode cX4_init 42 = .ok (.goto (-22), 3) := by decide +kernel
theorem dX4_init_45 : decode cX4_init 45 = .ok (.return_, 1) := by decide +kernel
theorem dX4_isFort_0 : decode cX4_isFort 0 = .ok (.iload_n 0, 1) := by decide +kernel
theorem dX4_isFort_1 : decode cX4_isFort 1 = .ok (.ifCond .lt 33, 3) := by decide +kernel
theorem dX4_isFort_4 : decode cX4_isFort 4 = .ok (.iload_n 0, 1) := by decide +kernel
theorem dX4_isFort_5 : decode cX4_isFort 5 = .ok (.bipush 6, 2) := by decide +kernel
theorem dX4_isFort_7 : decode cX4_isFort 7 = .ok (.if_icmp .ge 27, 3) := by decide +kernel
theorem dX4_isFort_10 : decode cX4_isFort 10 = .ok (.iload_n 1, 1) := by decide +kernel
theorem dX4_isFort_11 : decode cX4_isFort 11 = .ok (.ifCond .lt 23, 3) := by decide +kernel
theorem dX4_isFort_14 : decode cX4_isFort 14 = .ok (.iload_n 1, 1) := by decide +kernel
theorem dX4_isFort_15 : decode cX4_isFort 15 = .ok (.bipush 10, 2) := by decide +kernel
theorem dX4_isFort_17 : decode cX4_isFort 17 = .ok (.if_icmp .ge 17, 3) := by decide +kernel
theorem dX4_isFort_20 : decode cX4_isFort 20 = .ok (.iload_n 2, 1) := by decide +kernel
theorem dX4_isFort_21 : decode cX4_isFort 21 = .ok (.ifCond .lt 13, 3) := by decide +kernel
theorem dX4_isFort_24 : decode cX4_isFort 24 = .ok (.iload_n 2, 1) := by decide +kernel
theorem dX4_isFort_25 : decode cX4_isFort 25 = .ok (.bipush 16, 2) := by decide +kernel
theorem dX4_isFort_27 : decode cX4_isFort 27 = .ok (.if_icmp .ge 7, 3) := by decide +kernel
theorem dX4_isFort_30 : decode cX4_isFort 30 = .ok (.iconst 1, 1) := by decide +kernel
theorem dX4_isFort_31 : decode cX4_isFort 31 = .ok (.goto 4, 3) := by decide +kernel
theorem dX4_isFort_34 : decode cX4_isFort 34 = .ok (.iconst 0, 1) := by decide +kernel
theorem dX4_isFort_35 : decode cX4_isFort 35 = .ok (.ireturn, 1) := by decide +kernel
theorem dX4_add_0 : decode cX4_add 0 = .ok (.aload_n 0, 1) := by decide +kernel
theorem dX4_add_1 : decode cX4_add 1 = .ok (.getfield 22, 3) := by decide +kernel
theorem dX4_add_4 : decode cX4_add 4 = .ok (.ifCond .lt 12, 3) := by decide +kernel
theorem dX4_add_7 : decode cX4_add 7 = .ok (.aload_n 0, 1) := by decide +kernel
theorem dX4_add_8 : decode cX4_add 8 = .ok (.getfield 22, 3) := by decide +kernel
theorem dX4_add_11 : decode cX4_add 11 = .ok (.bipush 8, 2) := by decide +kernel
theorem dX4_add_13 : decode cX4_add 13 = .ok (.if_icmp .lt 6, 3) := by decide +kernel
theorem dX4_add_16 : decode cX4_add 16 = .ok (.bipush (-4), 2) := by decide +kernel
theorem dX4_add_18 : decode cX4_add 18 = .ok (.ireturn, 1) := by decide +kernel
theorem dX4_add_19 : decode cX4_add 19 = .ok (.aload_n 0, 1) := by decide +kernel
theorem dX4_add_20 : decode cX4_add 20 = .ok (.getfield 11, 3) := by decide +kernel
theorem dX4_add_23 : decode cX4_add 23 = .ok (.aload_n 0, 1) := by decide +kernel
theorem dX4_add_24 : decode cX4_add 24 = .ok (.getfield 22, 3) := by decide +kernel
theorem dX4_add_27 : decode cX4_add 27 = .ok (.aaload, 1) := by decide +kernel
theorem dX4_add_28 : decode cX4_add 28 = .ok (.iload_n 1, 1) := by decide +kernel
theorem dX4_add_29 : decode cX4_add 29 = .ok (.iload_n 2, 1) := by decide +kernel
theorem dX4_add_30 : decode cX4_add 30 = .ok (.iload_n 3, 1) := by decide +kernel
theorem dX4_add_31 : decode cX4_add 31 = .ok (.invokevirtual 26, 3) := by decide +kernel
theorem dX4_add_34 : decode cX4_add 34 = .ok (.aload_n 0, 1) := by decide +kernel
theorem dX4_add_35 : decode cX4_add 35 = .ok (.dup, 1) := by decide +kernel
theorem dX4_add_36 : decode cX4_add 36 = .ok (.getfield 22, 3) := by decide +kernel
theorem dX4_add_39 : decode cX4_add 39 = .ok (.iconst 1, 1) := by decide +kernel
theorem dX4_add_40 : decode cX4_add 40 = .ok (.iadd, 1) := by decide +kernel
theorem dX4_add_41 : decode cX4_add 41 = .ok (.putfield 22, 3) := by decide +kernel
theorem dX4_add_44 : decode cX4_add 44 = .ok (.aload_n 0, 1) := by decide +kernel
theorem dX4_add_45 : decode cX4_add 45 = .ok (.getfield 22, 3) := by decide +kernel
theorem dX4_add_48 : decode cX4_add 48 = .ok (.iconst 1, 1) := by decide +kernel
theorem dX4_add_49 : decode cX4_add 49 = .ok (.isub, 1) := by decide +kernel
theorem dX4_add_50 : decode cX4_add 50 = .ok (.ireturn, 1) := by decide +kernel
theorem dX4_at_0 : decode cX4_at 0 = .ok (.iload_n 1, 1) := by decide +kernel
theorem dX4_at_1 : decode cX4_at 1 = .ok (.ifCond .lt 26, 3) := by decide +kernel
theorem dX4_at_4 : decode cX4_at 4 = .ok (.iload_n 1, 1) := by decide +kernel
theorem dX4_at_5 : decode cX4_at 5 = .ok (.aload_n 0, 1) := by decide +kernel
theorem dX4_at_6 : decode cX4_at 6 = .ok (.getfield 22, 3) := by decide +kernel
theorem dX4_at_9 : decode cX4_at 9 = .ok (.if_icmp .ge 18, 3) := by decide +kernel
theorem dX4_at_12 : decode cX4_at 12 = .ok (.iload_n 1, 1) := by decide +kernel
theorem dX4_at_13 : decode cX4_at 13 = .ok (.bipush 8, 2) := by decide +kernel
theorem dX4_at_15 : decode cX4_at 15 = .ok (.if_icmp .ge 12, 3) := by decide +kernel
theorem dX4_at_18 : decode cX4_at 18 = .ok (.aload_n 0, 1) := by decide +kernel
theorem dX4_at_19 : decode cX4_at 19 = .ok (.getfield 11, 3) := by decide +kernel
theorem dX4_at_22 : decode cX4_at 22 = .ok (.iload_n 1, 1) := by decide +kernel
theorem dX4_at_23 : decode cX4_at 23 = .ok (.aaload, 1) := by decide +kernel
theorem dX4_at_24 : decode cX4_at 24 = .ok (.goto 4, 3) := by decide +kernel
theorem dX4_at_27 : decode cX4_at 27 = .ok (.aconst_null, 1) := by decide +kernel
theorem dX4_at_28 : decode cX4_at 28 = .ok (.areturn, 1) := by decide +kernel
theorem dX4_take_0 : decode cX4_take 0 = .ok (.iconst 0, 1) := by decide +kernel
theorem dX4_take_1 : decode cX4_take 1 = .ok (.istore_n 2, 1) := by decide +kernel
theorem dX4_take_2 : decode cX4_take 2 = .ok (.iload_n 2, 1) := by decide +kernel
theorem dX4_take_3 : decode cX4_take 3 = .ok (.bipush 8, 2) := by decide +kernel
theorem dX4_take_5 : decode cX4_take 5 = .ok (.if_icmp .ge 24, 3) := by decide +kernel
theorem dX4_take_8 : decode cX4_take 8 = .ok (.aload_n 0, 1) := by decide +kernel
theorem dX4_take_9 : decode cX4_take 9 = .ok (.getfield 11, 3) := by decide +kernel
theorem dX4_take_12 : decode cX4_take 12 = .ok (.iload_n 2, 1) := by decide +kernel
theorem dX4_take_13 : decode cX4_take 13 = .ok (.aaload, 1) := by decide +kernel
theorem dX4_take_14 : decode cX4_take 14 = .ok (.aload_n 1, 1) := by decide +kernel
theorem dX4_take_15 : decode cX4_take 15 = .ok (.getfield 11, 3) := by decide +kernel
theorem dX4_take_18 : decode cX4_take 18 = .ok (.iload_n 2, 1) := by decide +kernel
theorem dX4_take_19 : decode cX4_take 19 = .ok (.aaload, 1) := by decide +kernel
theorem dX4_take_20 : decode cX4_take 20 = .ok (.invokevirtual 30, 3) := by decide +kernel
theorem dX4_take_23 : decode cX4_take 23 = .ok (.iinc 2 1, 3) := by decide +kernel
theorem dX4_take_26 : decode cX4_take 26 = .ok (.goto (-24), 3) := by decide +kernel
theorem dX4_take_29 : decode cX4_take 29 = .ok (.aload_n 0, 1) := by decide +kernel
theorem dX4_take_30 : decode cX4_take 30 = .ok (.aload_n 1, 1) := by decide +kernel
theorem dX4_take_31 : decode cX4_take 31 = .ok (.getfield 22, 3) := by decide +kernel
theorem dX4_take_34 : decode cX4_take 34 = .ok (.putfield 22, 3) := by decide +kernel
theorem dX4_take_37 : decode cX4_take 37 = .ok (.aload_n 0, 1) := by decide +kernel
theorem dX4_take_38 : decode cX4_take 38 = .ok (.aload_n 1, 1) := by decide +kernel
theorem dX4_take_39 : decode cX4_take 39 = .ok (.getfield 34, 3) := by decide +kernel
theorem dX4_take_42 : decode cX4_take 42 = .ok (.putfield 34, 3) := by decide +kernel
theorem dX4_take_45 : decode cX4_take 45 = .ok (.aload_n 0, 1) := by decide +kernel
theorem dX4_take_46 : decode cX4_take 46 = .ok (.aload_n 1, 1) := by decide +kernel
theorem dX4_take_47 : decode cX4_take 47 = .ok (.getfield 37, 3) := by decide +kernel
theorem dX4_take_50 : decode cX4_take 50 = .ok (.putfield 37, 3) := by decide +kernel
theorem dX4_take_53 : decode cX4_take 53 = .ok (.aload_n 0, 1) := by decide +kernel
theorem dX4_take_54 : decode cX4_take 54 = .ok (.aload_n 1, 1) := by decide +kernel
theorem dX4_take_55 : decode cX4_take 55 = .ok (.getfield 17, 3) := by decide +kernel
theorem dX4_take_58 : decode cX4_take 58 = .ok (.putfield 17, 3) := by decide +kernel
theorem dX4_take_61 : decode cX4_take 61 = .ok (.return_, 1) := by decide +kernel
theorem dX4_losesOf_0 : decode cX4_losesOf 0 = .ok (.aload_n 1, 1) := by decide +kernel
theorem dX4_losesOf_1 : decode cX4_losesOf 1 = .ok (.aload_n 0, 1) := by decide +kernel
theorem dX4_losesOf_2 : decode cX4_losesOf 2 = .ok (.getfield 17, 3) := by decide +kernel
theorem dX4_losesOf_5 : decode cX4_losesOf 5 = .ok (.aload_n 0, 1) := by decide +kernel
theorem dX4_losesOf_6 : decode cX4_losesOf 6 = .ok (.aload_n 1, 1) := by decide +kernel
theorem dX4_losesOf_7 : decode cX4_losesOf 7 = .ok (.invokevirtual 40, 3) := by decide +kernel
theorem dX4_losesOf_10 : decode cX4_losesOf 10 = .ok (.aload_n 0, 1) := by decide +kernel
theorem dX4_losesOf_11 : decode cX4_losesOf 11 = .ok (.getfield 37, 3) := by decide +kernel
theorem dX4_losesOf_14 : decode cX4_losesOf 14 = .ok (.invokevirtual 46, 3) := by decide +kernel
theorem dX4_losesOf_17 : decode cX4_losesOf 17 = .ok (.ireturn, 1) := by decide +kernel
theorem dX4_risesOf_0 : decode cX4_risesOf 0 = .ok (.aload_n 1, 1) := by decide +kernel
theorem dX4_risesOf_1 : decode cX4_risesOf 1 = .ok (.aload_n 0, 1) := by decide +kernel
theorem dX4_risesOf_2 : decode cX4_risesOf 2 = .ok (.getfield 17, 3) := by decide +kernel
theorem dX4_risesOf_5 : decode cX4_risesOf 5 = .ok (.aload_n 0, 1) := by decide +kernel
theorem dX4_risesOf_6 : decode cX4_risesOf 6 = .ok (.aload_n 1, 1) := by decide +kernel
theorem dX4_risesOf_7 : decode cX4_risesOf 7 = .ok (.invokevirtual 50, 3) := by decide +kernel
theorem dX4_risesOf_10 : decode cX4_risesOf 10 = .ok (.invokevirtual 53, 3) := by decide +kernel
theorem dX4_risesOf_13 : decode cX4_risesOf 13 = .ok (.ireturn, 1) := by decide +kernel
theorem dX4_shelterOf_0 : decode cX4_shelterOf 0 = .ok (.iconst 0, 1) := by decide +kernel
theorem dX4_shelterOf_1 : decode cX4_shelterOf 1 = .ok (.istore_n 2, 1) := by decide +kernel
theorem dX4_shelterOf_2 : decode cX4_shelterOf 2 = .ok (.iconst 0, 1) := by decide +kernel
theorem dX4_shelterOf_3 : decode cX4_shelterOf 3 = .ok (.istore_n 3, 1) := by decide +kernel
theorem dX4_shelterOf_4 : decode cX4_shelterOf 4 = .ok (.iload_n 3, 1) := by decide +kernel
theorem dX4_shelterOf_5 : decode cX4_shelterOf 5 = .ok (.aload_n 0, 1) := by decide +kernel
theorem dX4_shelterOf_6 : decode cX4_shelterOf 6 = .ok (.getfield 22, 3) := by decide +kernel
theorem dX4_shelterOf_9 : decode cX4_shelterOf 9 = .ok (.if_icmp .ge 55, 3) := by decide +kernel
theorem dX4_shelterOf_12 : decode cX4_shelterOf 12 = .ok (.iload_n 3, 1) := by decide +kernel
theorem dX4_shelterOf_13 : decode cX4_shelterOf 13 = .ok (.bipush 8, 2) := by decide +kernel
theorem dX4_shelterOf_15 : decode cX4_shelterOf 15 = .ok (.if_icmp .ge 49, 3) := by decide +kernel
theorem dX4_shelterOf_18 : decode cX4_shelterOf 18 = .ok (.aload_n 0, 1) := by decide +kernel
theorem dX4_shelterOf_19 : decode cX4_shelterOf 19 = .ok (.getfield 11, 3) := by decide +kernel
theorem dX4_shelterOf_22 : decode cX4_shelterOf 22 = .ok (.iload_n 3, 1) := by decide +kernel
theorem dX4_shelterOf_23 : decode cX4_shelterOf 23 = .ok (.aaload, 1) := by decide +kernel
theorem dX4_shelterOf_24 : decode cX4_shelterOf 24 = .ok (.astore 4, 2) := by decide +kernel
theorem dX4_shelterOf_26 : decode cX4_shelterOf 26 = .ok (.aload 4, 2) := by decide +kernel
theorem dX4_shelterOf_28 : decode cX4_shelterOf 28 = .ok (.getfield 57, 3) := by decide +kernel
theorem dX4_shelterOf_31 : decode cX4_shelterOf 31 = .ok (.aload_n 1, 1) := by decide +kernel
theorem dX4_shelterOf_32 : decode cX4_shelterOf 32 = .ok (.getfield 57, 3) := by decide +kernel
theorem dX4_shelterOf_35 : decode cX4_shelterOf 35 = .ok (.if_icmp .ge 23, 3) := by decide +kernel
theorem dX4_shelterOf_38 : decode cX4_shelterOf 38 = .ok (.aload 4, 2) := by decide +kernel
theorem dX4_shelterOf_40 : decode cX4_shelterOf 40 = .ok (.getfield 60, 3) := by decide +kernel
theorem dX4_shelterOf_43 : decode cX4_shelterOf 43 = .ok (.ifCond .le 15, 3) := by decide +kernel
theorem dX4_shelterOf_46 : decode cX4_shelterOf 46 = .ok (.aload 4, 2) := by decide +kernel
theorem dX4_shelterOf_48 : decode cX4_shelterOf 48 = .ok (.getfield 63, 3) := by decide +kernel
theorem dX4_shelterOf_51 : decode cX4_shelterOf 51 = .ok (.iconst 2, 1) := by decide +kernel
theorem dX4_shelterOf_52 : decode cX4_shelterOf 52 = .ok (.if_icmp .eq 6, 3) := by decide +kernel
theorem dX4_shelterOf_55 : decode cX4_shelterOf 55 = .ok (.iinc 2 1, 3) := by decide +kernel
theorem dX4_shelterOf_58 : decode cX4_shelterOf 58 = .ok (.iinc 3 1, 3) := by decide +kernel
theorem dX4_shelterOf_61 : decode cX4_shelterOf 61 = .ok (.goto (-57), 3) := by decide +kernel
theorem dX4_shelterOf_64 : decode cX4_shelterOf 64 = .ok (.iload_n 2, 1) := by decide +kernel
theorem dX4_shelterOf_65 : decode cX4_shelterOf 65 = .ok (.ireturn, 1) := by decide +kernel
theorem dX4_beat_0 : decode cX4_beat 0 = .ok (.iconst 0, 1) := by decide +kernel
theorem dX4_beat_1 : decode cX4_beat 1 = .ok (.istore_n 1, 1) := by decide +kernel
theorem dX4_beat_2 : decode cX4_beat 2 = .ok (.iload_n 1, 1) := by decide +kernel
theorem dX4_beat_3 : decode cX4_beat 3 = .ok (.aload_n 0, 1) := by decide +kernel
theorem dX4_beat_4 : decode cX4_beat 4 = .ok (.getfield 22, 3) := by decide +kernel
theorem dX4_beat_7 : decode cX4_beat 7 = .ok (.if_icmp .ge 54, 3) := by decide +kernel
theorem dX4_beat_10 : decode cX4_beat 10 = .ok (.iload_n 1, 1) := by decide +kernel
theorem dX4_beat_11 : decode cX4_beat 11 = .ok (.bipush 8, 2) := by decide +kernel
theorem dX4_beat_13 : decode cX4_beat 13 = .ok (.if_icmp .ge 48, 3) := by decide +kernel
theorem dX4_beat_16 : decode cX4_beat 16 = .ok (.aload_n 0, 1) := by decide +kernel
theorem dX4_beat_17 : decode cX4_beat 17 = .ok (.getfield 11, 3) := by decide +kernel
theorem dX4_beat_20 : decode cX4_beat 20 = .ok (.iload_n 1, 1) := by decide +kernel
theorem dX4_beat_21 : decode cX4_beat 21 = .ok (.aaload, 1) := by decide +kernel
theorem dX4_beat_22 : decode cX4_beat 22 = .ok (.astore_n 2, 1) := by decide +kernel
theorem dX4_beat_23 : decode cX4_beat 23 = .ok (.aload_n 2, 1) := by decide +kernel
theorem dX4_beat_24 : decode cX4_beat 24 = .ok (.aload_n 2, 1) := by decide +kernel
theorem dX4_beat_25 : decode cX4_beat 25 = .ok (.invokevirtual 66, 3) := by decide +kernel
theorem dX4_beat_28 : decode cX4_beat 28 = .ok (.ifCond .eq 23, 3) := by decide +kernel
theorem dX4_beat_31 : decode cX4_beat 31 = .ok (.aload_n 2, 1) := by decide +kernel
theorem dX4_beat_32 : decode cX4_beat 32 = .ok (.aload_n 0, 1) := by decide +kernel
theorem dX4_beat_33 : decode cX4_beat 33 = .ok (.getfield 17, 3) := by decide +kernel
theorem dX4_beat_36 : decode cX4_beat 36 = .ok (.aload_n 0, 1) := by decide +kernel
theorem dX4_beat_37 : decode cX4_beat 37 = .ok (.aload_n 2, 1) := by decide +kernel
theorem dX4_beat_38 : decode cX4_beat 38 = .ok (.invokevirtual 40, 3) := by decide +kernel
theorem dX4_beat_41 : decode cX4_beat 41 = .ok (.aload_n 0, 1) := by decide +kernel
theorem dX4_beat_42 : decode cX4_beat 42 = .ok (.getfield 37, 3) := by decide +kernel
theorem dX4_beat_45 : decode cX4_beat 45 = .ok (.invokevirtual 46, 3) := by decide +kernel
theorem dX4_beat_48 : decode cX4_beat 48 = .ok (.goto 4, 3) := by decide +kernel
theorem dX4_beat_51 : decode cX4_beat 51 = .ok (.iconst 0, 1) := by decide +kernel
theorem dX4_beat_52 : decode cX4_beat 52 = .ok (.putfield 70, 3) := by decide +kernel
theorem dX4_beat_55 : decode cX4_beat 55 = .ok (.iinc 1 1, 3) := by decide +kernel
theorem dX4_beat_58 : decode cX4_beat 58 = .ok (.goto (-56), 3) := by decide +kernel
theorem dX4_beat_61 : decode cX4_beat 61 = .ok (.iconst 0, 1) := by decide +kernel
theorem dX4_beat_62 : decode cX4_beat 62 = .ok (.istore_n 1, 1) := by decide +kernel
theorem dX4_beat_63 : decode cX4_beat 63 = .ok (.iload_n 1, 1) := by decide +kernel
theorem dX4_beat_64 : decode cX4_beat 64 = .ok (.aload_n 0, 1) := by decide +kernel
theorem dX4_beat_65 : decode cX4_beat 65 = .ok (.getfield 22, 3) := by decide +kernel
theorem dX4_beat_68 : decode cX4_beat 68 = .ok (.if_icmp .ge 39, 3) := by decide +kernel
theorem dX4_beat_71 : decode cX4_beat 71 = .ok (.iload_n 1, 1) := by decide +kernel
theorem dX4_beat_72 : decode cX4_beat 72 = .ok (.bipush 8, 2) := by decide +kernel
theorem dX4_beat_74 : decode cX4_beat 74 = .ok (.if_icmp .ge 33, 3) := by decide +kernel
theorem dX4_beat_77 : decode cX4_beat 77 = .ok (.aload_n 0, 1) := by decide +kernel
theorem dX4_beat_78 : decode cX4_beat 78 = .ok (.getfield 11, 3) := by decide +kernel
theorem dX4_beat_81 : decode cX4_beat 81 = .ok (.iload_n 1, 1) := by decide +kernel
theorem dX4_beat_82 : decode cX4_beat 82 = .ok (.aaload, 1) := by decide +kernel
theorem dX4_beat_83 : decode cX4_beat 83 = .ok (.astore_n 2, 1) := by decide +kernel
theorem dX4_beat_84 : decode cX4_beat 84 = .ok (.aload_n 2, 1) := by decide +kernel
theorem dX4_beat_85 : decode cX4_beat 85 = .ok (.iconst 0, 1) := by decide +kernel
theorem dX4_beat_86 : decode cX4_beat 86 = .ok (.aload_n 2, 1) := by decide +kernel
theorem dX4_beat_87 : decode cX4_beat 87 = .ok (.getfield 60, 3) := by decide +kernel
theorem dX4_beat_90 : decode cX4_beat 90 = .ok (.aload_n 2, 1) := by decide +kernel
theorem dX4_beat_91 : decode cX4_beat 91 = .ok (.getfield 70, 3) := by decide +kernel
theorem dX4_beat_94 : decode cX4_beat 94 = .ok (.isub, 1) := by decide +kernel
theorem dX4_beat_95 : decode cX4_beat 95 = .ok (.invokestatic 73, 3) := by decide +kernel
theorem dX4_beat_98 : decode cX4_beat 98 = .ok (.putfield 60, 3) := by decide +kernel
theorem dX4_beat_101 : decode cX4_beat 101 = .ok (.iinc 1 1, 3) := by decide +kernel
theorem dX4_beat_104 : decode cX4_beat 104 = .ok (.goto (-41), 3) := by decide +kernel
theorem dX4_beat_107 : decode cX4_beat 107 = .ok (.aload_n 0, 1) := by decide +kernel
theorem dX4_beat_108 : decode cX4_beat 108 = .ok (.dup, 1) := by decide +kernel
theorem dX4_beat_109 : decode cX4_beat 109 = .ok (.getfield 37, 3) := by decide +kernel
theorem dX4_beat_112 : decode cX4_beat 112 = .ok (.iconst 1, 1) := by decide +kernel
theorem dX4_beat_113 : decode cX4_beat 113 = .ok (.iadd, 1) := by decide +kernel
theorem dX4_beat_114 : decode cX4_beat 114 = .ok (.putfield 37, 3) := by decide +kernel
theorem dX4_beat_117 : decode cX4_beat 117 = .ok (.return_, 1) := by decide +kernel
theorem dX4_pass_0 : decode cX4_pass 0 = .ok (.iconst 0, 1) := by decide +kernel
theorem dX4_pass_1 : decode cX4_pass 1 = .ok (.istore_n 2, 1) := by decide +kernel
theorem dX4_pass_2 : decode cX4_pass 2 = .ok (.iload_n 2, 1) := by decide +kernel
theorem dX4_pass_3 : decode cX4_pass 3 = .ok (.iload_n 1, 1) := by decide +kernel
theorem dX4_pass_4 : decode cX4_pass 4 = .ok (.if_icmp .ge 13, 3) := by decide +kernel
theorem dX4_pass_7 : decode cX4_pass 7 = .ok (.aload_n 0, 1) := by decide +kernel
theorem dX4_pass_8 : decode cX4_pass 8 = .ok (.invokevirtual 78, 3) := by decide +kernel
theorem dX4_pass_11 : decode cX4_pass 11 = .ok (.iinc 2 1, 3) := by decide +kernel
theorem dX4_pass_14 : decode cX4_pass 14 = .ok (.goto (-12), 3) := by decide +kernel
theorem dX4_pass_17 : decode cX4_pass 17 = .ok (.return_, 1) := by decide +kernel
theorem dX4_raise_0 : decode cX4_raise 0 = .ok (.aload_n 1, 1) := by decide +kernel
theorem dX4_raise_1 : decode cX4_raise 1 = .ok (.bipush 99, 2) := by decide +kernel
theorem dX4_raise_3 : decode cX4_raise 3 = .ok (.aload_n 1, 1) := by decide +kernel
theorem dX4_raise_4 : decode cX4_raise 4 = .ok (.getfield 60, 3) := by decide +kernel
theorem dX4_raise_7 : decode cX4_raise 7 = .ok (.aload_n 0, 1) := by decide +kernel
theorem dX4_raise_8 : decode cX4_raise 8 = .ok (.aload_n 1, 1) := by decide +kernel
theorem dX4_raise_9 : decode cX4_raise 9 = .ok (.invokevirtual 81, 3) := by decide +kernel
theorem dX4_raise_12 : decode cX4_raise 12 = .ok (.iadd, 1) := by decide +kernel
theorem dX4_raise_13 : decode cX4_raise 13 = .ok (.invokestatic 85, 3) := by decide +kernel
theorem dX4_raise_16 : decode cX4_raise 16 = .ok (.putfield 60, 3) := by decide +kernel
theorem dX4_raise_19 : decode cX4_raise 19 = .ok (.return_, 1) := by decide +kernel
theorem dX4_standing_0 : decode cX4_standing 0 = .ok (.iconst 0, 1) := by decide +kernel
theorem dX4_standing_1 : decode cX4_standing 1 = .ok (.istore_n 1, 1) := by decide +kernel
theorem dX4_standing_2 : decode cX4_standing 2 = .ok (.iconst 0, 1) := by decide +kernel
theorem dX4_standing_3 : decode cX4_standing 3 = .ok (.istore_n 2, 1) := by decide +kernel
theorem dX4_standing_4 : decode cX4_standing 4 = .ok (.iload_n 2, 1) := by decide +kernel
theorem dX4_standing_5 : decode cX4_standing 5 = .ok (.aload_n 0, 1) := by decide +kernel
theorem dX4_standing_6 : decode cX4_standing 6 = .ok (.getfield 22, 3) := by decide +kernel
theorem dX4_standing_9 : decode cX4_standing 9 = .ok (.if_icmp .ge 33, 3) := by decide +kernel
theorem dX4_standing_12 : decode cX4_standing 12 = .ok (.iload_n 2, 1) := by decide +kernel
theorem dX4_standing_13 : decode cX4_standing 13 = .ok (.bipush 8, 2) := by decide +kernel
theorem dX4_standing_15 : decode cX4_standing 15 = .ok (.if_icmp .ge 27, 3) := by decide +kernel
theorem dX4_standing_18 : decode cX4_standing 18 = .ok (.aload_n 0, 1) := by decide +kernel
theorem dX4_standing_19 : decode cX4_standing 19 = .ok (.getfield 11, 3) := by decide +kernel
theorem dX4_standing_22 : decode cX4_standing 22 = .ok (.iload_n 2, 1) := by decide +kernel
theorem dX4_standing_23 : decode cX4_standing 23 = .ok (.aaload, 1) := by decide +kernel
theorem dX4_standing_24 : decode cX4_standing 24 = .ok (.invokevirtual 66, 3) := by decide +kernel
theorem dX4_standing_27 : decode cX4_standing 27 = .ok (.ifCond .eq 9, 3) := by decide +kernel
theorem dX4_standing_30 : decode cX4_standing 30 = .ok (.iload_n 1, 1) := by decide +kernel
theorem dX4_standing_31 : decode cX4_standing 31 = .ok (.iconst 1, 1) := by decide +kernel
theorem dX4_standing_32 : decode cX4_standing 32 = .ok (.iload_n 2, 1) := by decide +kernel
theorem dX4_standing_33 : decode cX4_standing 33 = .ok (.ishl, 1) := by decide +kernel
theorem dX4_standing_34 : decode cX4_standing 34 = .ok (.ior, 1) := by decide +kernel
theorem dX4_standing_35 : decode cX4_standing 35 = .ok (.istore_n 1, 1) := by decide +kernel
theorem dX4_standing_36 : decode cX4_standing 36 = .ok (.iinc 2 1, 3) := by decide +kernel
theorem dX4_standing_39 : decode cX4_standing 39 = .ok (.goto (-35), 3) := by decide +kernel
theorem dX4_standing_42 : decode cX4_standing 42 = .ok (.iload_n 1, 1) := by decide +kernel
theorem dX4_standing_43 : decode cX4_standing 43 = .ok (.ireturn, 1) := by decide +kernel
theorem dX4_bay_0 : decode cX4_bay 0 = .ok (.iconst 0, 1) := by decide +kernel
theorem dX4_bay_1 : decode cX4_bay 1 = .ok (.istore_n 1, 1) := by decide +kernel
theorem dX4_bay_2 : decode cX4_bay 2 = .ok (.iconst 0, 1) := by decide +kernel
theorem dX4_bay_3 : decode cX4_bay 3 = .ok (.istore_n 2, 1) := by decide +kernel
theorem dX4_bay_4 : decode cX4_bay 4 = .ok (.iconst 0, 1) := by decide +kernel
theorem dX4_bay_5 : decode cX4_bay 5 = .ok (.istore_n 3, 1) := by decide +kernel
theorem dX4_bay_6 : decode cX4_bay 6 = .ok (.iload_n 3, 1) := by decide +kernel
theorem dX4_bay_7 : decode cX4_bay 7 = .ok (.aload_n 0, 1) := by decide +kernel
theorem dX4_bay_8 : decode cX4_bay 8 = .ok (.getfield 22, 3) := by decide +kernel
theorem dX4_bay_11 : decode cX4_bay 11 = .ok (.if_icmp .ge 66, 3) := by decide +kernel
theorem dX4_bay_14 : decode cX4_bay 14 = .ok (.iload_n 3, 1) := by decide +kernel
theorem dX4_bay_15 : decode cX4_bay 15 = .ok (.bipush 8, 2) := by decide +kernel
theorem dX4_bay_17 : decode cX4_bay 17 = .ok (.if_icmp .ge 60, 3) := by decide +kernel
theorem dX4_bay_20 : decode cX4_bay 20 = .ok (.aload_n 0, 1) := by decide +kernel
theorem dX4_bay_21 : decode cX4_bay 21 = .ok (.getfield 11, 3) := by decide +kernel
theorem dX4_bay_24 : decode cX4_bay 24 = .ok (.iload_n 3, 1) := by decide +kernel
theorem dX4_bay_25 : decode cX4_bay 25 = .ok (.aaload, 1) := by decide +kernel
theorem dX4_bay_26 : decode cX4_bay 26 = .ok (.astore 4, 2) := by decide +kernel
theorem dX4_bay_28 : decode cX4_bay 28 = .ok (.aload 4, 2) := by decide +kernel
theorem dX4_bay_30 : decode cX4_bay 30 = .ok (.getfield 88, 3) := by decide +kernel
theorem dX4_bay_33 : decode cX4_bay 33 = .ok (.ifCond .ne 7, 3) := by decide +kernel
theorem dX4_bay_36 : decode cX4_bay 36 = .ok (.iconst 1, 1) := by decide +kernel
theorem dX4_bay_37 : decode cX4_bay 37 = .ok (.goto 4, 3) := by decide +kernel
theorem dX4_bay_40 : decode cX4_bay 40 = .ok (.iconst (-1), 1) := by decide +kernel
theorem dX4_bay_41 : decode cX4_bay 41 = .ok (.istore 5, 2) := by decide +kernel
theorem dX4_bay_43 : decode cX4_bay 43 = .ok (.iload_n 1, 1) := by decide +kernel
theorem dX4_bay_44 : decode cX4_bay 44 = .ok (.aload 4, 2) := by decide +kernel
theorem dX4_bay_46 : decode cX4_bay 46 = .ok (.invokevirtual 66, 3) := by decide +kernel
theorem dX4_bay_49 : decode cX4_bay 49 = .ok (.ifCond .eq 8, 3) := by decide +kernel
theorem dX4_bay_52 : decode cX4_bay 52 = .ok (.iload 5, 2) := by decide +kernel
theorem dX4_bay_54 : decode cX4_bay 54 = .ok (.goto 4, 3) := by decide +kernel
theorem dX4_bay_57 : decode cX4_bay 57 = .ok (.iconst 0, 1) := by decide +kernel
theorem dX4_bay_58 : decode cX4_bay 58 = .ok (.iadd, 1) := by decide +kernel
theorem dX4_bay_59 : decode cX4_bay 59 = .ok (.istore_n 1, 1) := by decide +kernel
theorem dX4_bay_60 : decode cX4_bay 60 = .ok (.iload_n 2, 1) := by decide +kernel
theorem dX4_bay_61 : decode cX4_bay 61 = .ok (.iload 5, 2) := by decide +kernel
theorem dX4_bay_63 : decode cX4_bay 63 = .ok (.aload 4, 2) := by decide +kernel
theorem dX4_bay_65 : decode cX4_bay 65 = .ok (.getfield 60, 3) := by decide +kernel
theorem dX4_bay_68 : decode cX4_bay 68 = .ok (.imul, 1) := by decide +kernel
theorem dX4_bay_69 : decode cX4_bay 69 = .ok (.iadd, 1) := by decide +kernel
theorem dX4_bay_70 : decode cX4_bay 70 = .ok (.istore_n 2, 1) := by decide +kernel
theorem dX4_bay_71 : decode cX4_bay 71 = .ok (.iinc 3 1, 3) := by decide +kernel
theorem dX4_bay_74 : decode cX4_bay 74 = .ok (.goto (-68), 3) := by decide +kernel
theorem dX4_bay_77 : decode cX4_bay 77 = .ok (.iload_n 1, 1) := by decide +kernel
theorem dX4_bay_78 : decode cX4_bay 78 = .ok (.ifCond .eq 7, 3) := by decide +kernel
theorem dX4_bay_81 : decode cX4_bay 81 = .ok (.iload_n 1, 1) := by decide +kernel
theorem dX4_bay_82 : decode cX4_bay 82 = .ok (.goto 4, 3) := by decide +kernel
theorem dX4_bay_85 : decode cX4_bay 85 = .ok (.iload_n 2, 1) := by decide +kernel
theorem dX4_bay_86 : decode cX4_bay 86 = .ok (.istore_n 3, 1) := by decide +kernel
theorem dX4_bay_87 : decode cX4_bay 87 = .ok (.iload_n 3, 1) := by decide +kernel
theorem dX4_bay_88 : decode cX4_bay 88 = .ok (.ifCond .ne 5, 3) := by decide +kernel
theorem dX4_bay_91 : decode cX4_bay 91 = .ok (.iconst (-1), 1) := by decide +kernel
theorem dX4_bay_92 : decode cX4_bay 92 = .ok (.ireturn, 1) := by decide +kernel
theorem dX4_bay_93 : decode cX4_bay 93 = .ok (.iload_n 3, 1) := by decide +kernel
theorem dX4_bay_94 : decode cX4_bay 94 = .ok (.ifCond .le 7, 3) := by decide +kernel
theorem dX4_bay_97 : decode cX4_bay 97 = .ok (.iconst 0, 1) := by decide +kernel
theorem dX4_bay_98 : decode cX4_bay 98 = .ok (.goto 4, 3) := by decide +kernel
theorem dX4_bay_101 : decode cX4_bay 101 = .ok (.iconst 1, 1) := by decide +kernel
theorem dX4_bay_102 : decode cX4_bay 102 = .ok (.ireturn, 1) := by decide +kernel
theorem dX4_valueOf_0 : decode cX4_valueOf 0 = .ok (.iconst 0, 1) := by decide +kernel
theorem dX4_valueOf_1 : decode cX4_valueOf 1 = .ok (.istore_n 2, 1) := by decide +kernel
theorem dX4_valueOf_2 : decode cX4_valueOf 2 = .ok (.iconst 0, 1) := by decide +kernel
theorem dX4_valueOf_3 : decode cX4_valueOf 3 = .ok (.istore_n 3, 1) := by decide +kernel
theorem dX4_valueOf_4 : decode cX4_valueOf 4 = .ok (.iload_n 3, 1) := by decide +kernel
theorem dX4_valueOf_5 : decode cX4_valueOf 5 = .ok (.aload_n 0, 1) := by decide +kernel
theorem dX4_valueOf_6 : decode cX4_valueOf 6 = .ok (.getfield 22, 3) := by decide +kernel
theorem dX4_valueOf_9 : decode cX4_valueOf 9 = .ok (.if_icmp .ge 63, 3) := by decide +kernel
theorem dX4_valueOf_12 : decode cX4_valueOf 12 = .ok (.iload_n 3, 1) := by decide +kernel
theorem dX4_valueOf_13 : decode cX4_valueOf 13 = .ok (.bipush 8, 2) := by decide +kernel
theorem dX4_valueOf_15 : decode cX4_valueOf 15 = .ok (.if_icmp .ge 57, 3) := by decide +kernel
theorem dX4_valueOf_18 : decode cX4_valueOf 18 = .ok (.aload_n 0, 1) := by decide +kernel
theorem dX4_valueOf_19 : decode cX4_valueOf 19 = .ok (.getfield 11, 3) := by decide +kernel
theorem dX4_valueOf_22 : decode cX4_valueOf 22 = .ok (.iload_n 3, 1) := by decide +kernel
theorem dX4_valueOf_23 : decode cX4_valueOf 23 = .ok (.aaload, 1) := by decide +kernel
theorem dX4_valueOf_24 : decode cX4_valueOf 24 = .ok (.astore 4, 2) := by decide +kernel
theorem dX4_valueOf_26 : decode cX4_valueOf 26 = .ok (.aload 4, 2) := by decide +kernel
theorem dX4_valueOf_28 : decode cX4_valueOf 28 = .ok (.invokevirtual 66, 3) := by decide +kernel
theorem dX4_valueOf_31 : decode cX4_valueOf 31 = .ok (.ifCond .eq 35, 3) := by decide +kernel
theorem dX4_valueOf_34 : decode cX4_valueOf 34 = .ok (.aload_n 0, 1) := by decide +kernel
theorem dX4_valueOf_35 : decode cX4_valueOf 35 = .ok (.getfield 17, 3) := by decide +kernel
theorem dX4_valueOf_38 : decode cX4_valueOf 38 = .ok (.aload_n 0, 1) := by decide +kernel
theorem dX4_valueOf_39 : decode cX4_valueOf 39 = .ok (.aload 4, 2) := by decide +kernel
theorem dX4_valueOf_41 : decode cX4_valueOf 41 = .ok (.invokevirtual 91, 3) := by decide +kernel
theorem dX4_valueOf_44 : decode cX4_valueOf 44 = .ok (.istore 5, 2) := by decide +kernel
theorem dX4_valueOf_46 : decode cX4_valueOf 46 = .ok (.iload_n 2, 1) := by decide +kernel
theorem dX4_valueOf_47 : decode cX4_valueOf 47 = .ok (.aload 4, 2) := by decide +kernel
theorem dX4_valueOf_49 : decode cX4_valueOf 49 = .ok (.getfield 88, 3) := by decide +kernel
theorem dX4_valueOf_52 : decode cX4_valueOf 52 = .ok (.iload_n 1, 1) := by decide +kernel
theorem dX4_valueOf_53 : decode cX4_valueOf 53 = .ok (.if_icmp .ne 8, 3) := by decide +kernel
theorem dX4_valueOf_56 : decode cX4_valueOf 56 = .ok (.iload 5, 2) := by decide +kernel
theorem dX4_valueOf_58 : decode cX4_valueOf 58 = .ok (.goto 6, 3) := by decide +kernel
theorem dX4_valueOf_61 : decode cX4_valueOf 61 = .ok (.iload 5, 2) := by decide +kernel
theorem dX4_valueOf_63 : decode cX4_valueOf 63 = .ok (.ineg, 1) := by decide +kernel
theorem dX4_valueOf_64 : decode cX4_valueOf 64 = .ok (.iadd, 1) := by decide +kernel
theorem dX4_valueOf_65 : decode cX4_valueOf 65 = .ok (.istore_n 2, 1) := by decide +kernel
theorem dX4_valueOf_66 : decode cX4_valueOf 66 = .ok (.iinc 3 1, 3) := by decide +kernel
theorem dX4_valueOf_69 : decode cX4_valueOf 69 = .ok (.goto (-65), 3) := by decide +kernel
theorem dX4_valueOf_72 : decode cX4_valueOf 72 = .ok (.iload_n 2, 1) := by decide +kernel
theorem dX4_valueOf_73 : decode cX4_valueOf 73 = .ok (.ireturn, 1) := by decide +kernel
theorem dX5_init_0 : decode cX5_init 0 = .ok (.aload_n 0, 1) := by decide +kernel
theorem dX5_init_1 : decode cX5_init 1 = .ok (.invokespecial 3, 3) := by decide +kernel
theorem dX5_init_4 : decode cX5_init 4 = .ok (.aload_n 0, 1) := by decide +kernel
theorem dX5_init_5 : decode cX5_init 5 = .ok (.sipush 160, 3) := by decide +kernel
theorem dX5_init_8 : decode cX5_init 8 = .ok (.newarray .int, 2) := by decide +kernel
theorem dX5_init_10 : decode cX5_init 10 = .ok (.putfield 9, 3) := by decide +kernel
theorem dX5_init_13 : decode cX5_init 13 = .ok (.aload_n 0, 1) := by decide +kernel
theorem dX5_init_14 : decode cX5_init 14 = .ok (.sipush 161, 3) := by decide +kernel
theorem dX5_init_17 : decode cX5_init 17 = .ok (.newarray .int, 2) := by decide +kernel
theorem dX5_init_19 : decode cX5_init 19 = .ok (.putfield 15, 3) := by decide +kernel
theorem dX5_init_22 : decode cX5_init 22 = .ok (.aload_n 0, 1) := by decide +kernel
theorem dX5_init_23 : decode cX5_init 23 = .ok (.sipush 161, 3) := by decide +kernel
theorem dX5_init_26 : decode cX5_init 26 = .ok (.newarray .int, 2) := by decide +kernel
theorem dX5_init_28 : decode cX5_init 28 = .ok (.putfield 18, 3) := by decide +kernel
theorem dX5_init_31 : decode cX5_init 31 = .ok (.return_, 1) := by decide +kernel
theorem dX5_add_0 : decode cX5_add 0 = .ok (.aload_n 0, 1) := by decide +kernel
theorem dX5_add_1 : decode cX5_add 1 = .ok (.getfield 21, 3) := by decide +kernel
theorem dX5_add_4 : decode cX5_add 4 = .ok (.ifCond .lt 13, 3) := by decide +kernel
theorem dX5_add_7 : decode cX5_add 7 = .ok (.aload_n 0, 1) := by decide +kernel
theorem dX5_add_8 : decode cX5_add 8 = .ok (.getfield 21, 3) := by decide +kernel
theorem dX5_add_11 : decode cX5_add 11 = .ok (.sipush 160, 3) := by decide +kernel
theorem dX5_add_14 : decode cX5_add 14 = .ok (.if_icmp .lt 5, 3) := by decide +kernel
theorem dX5_add_17 : decode cX5_add 17 = .ok (.iconst 0, 1) := by decide +kernel
theorem dX5_add_18 : decode cX5_add 18 = .ok (.ireturn, 1) := by decide +kernel
theorem dX5_add_19 : decode cX5_add 19 = .ok (.aload_n 0, 1) := by decide +kernel
theorem dX5_add_20 : decode cX5_add 20 = .ok (.getfield 9, 3) := by decide +kernel
theorem dX5_add_23 : decode cX5_add 23 = .ok (.aload_n 0, 1) := by decide +kernel
theorem dX5_add_24 : decode cX5_add 24 = .ok (.getfield 21, 3) := by decide +kernel
theorem dX5_add_27 : decode cX5_add 27 = .ok (.iload_n 1, 1) := by decide +kernel
theorem dX5_add_28 : decode cX5_add 28 = .ok (.iastore, 1) := by decide +kernel
theorem dX5_add_29 : decode cX5_add 29 = .ok (.aload_n 0, 1) := by decide +kernel
theorem dX5_add_30 : decode cX5_add 30 = .ok (.dup, 1) := by decide +kernel
theorem dX5_add_31 : decode cX5_add 31 = .ok (.getfield 21, 3) := by decide +kernel
theorem dX5_add_34 : decode cX5_add 34 = .ok (.iconst 1, 1) := by decide +kernel
theorem dX5_add_35 : decode cX5_add 35 = .ok (.iadd, 1) := by decide +kernel
theorem dX5_add_36 : decode cX5_add 36 = .ok (.putfield 21, 3) := by decide +kernel
theorem dX5_add_39 : decode cX5_add 39 = .ok (.iconst 1, 1) := by decide +kernel
theorem dX5_add_40 : decode cX5_add 40 = .ok (.ireturn, 1) := by decide +kernel
theorem dX5_clear_0 : decode cX5_clear 0 = .ok (.aload_n 0, 1) := by decide +kernel
theorem dX5_clear_1 : decode cX5_clear 1 = .ok (.iconst 0, 1) := by decide +kernel
theorem dX5_clear_2 : decode cX5_clear 2 = .ok (.putfield 21, 3) := by decide +kernel
theorem dX5_clear_5 : decode cX5_clear 5 = .ok (.return_, 1) := by decide +kernel
theorem dX5_cut_0 : decode cX5_cut 0 = .ok (.iconst 0, 1) := by decide +kernel
theorem dX5_cut_1 : decode cX5_cut 1 = .ok (.istore_n 1, 1) := by decide +kernel
theorem dX5_cut_2 : decode cX5_cut 2 = .ok (.iconst 0, 1) := by decide +kernel
theorem dX5_cut_3 : decode cX5_cut 3 = .ok (.istore_n 2, 1) := by decide +kernel
theorem dX5_cut_4 : decode cX5_cut 4 = .ok (.iconst 0, 1) := by decide +kernel
theorem dX5_cut_5 : decode cX5_cut 5 = .ok (.istore_n 3, 1) := by decide +kernel
theorem dX5_cut_6 : decode cX5_cut 6 = .ok (.iload_n 3, 1) := by decide +kernel
theorem dX5_cut_7 : decode cX5_cut 7 = .ok (.sipush 160, 3) := by decide +kernel
theorem dX5_cut_10 : decode cX5_cut 10 = .ok (.if_icmp .gt 143, 3) := by decide +kernel
theorem dX5_cut_13 : decode cX5_cut 13 = .ok (.iload_n 1, 1) := by decide +kernel
theorem dX5_cut_14 : decode cX5_cut 14 = .ok (.iconst 1, 1) := by decide +kernel
theorem dX5_cut_15 : decode cX5_cut 15 = .ok (.if_icmp .eq 138, 3) := by decide +kernel
theorem dX5_cut_18 : decode cX5_cut 18 = .ok (.iload_n 1, 1) := by decide +kernel
theorem dX5_cut_19 : decode cX5_cut 19 = .ok (.iconst 2, 1) := by decide +kernel
theorem dX5_cut_20 : decode cX5_cut 20 = .ok (.if_icmp .eq 133, 3) := by decide +kernel
theorem dX5_cut_23 : decode cX5_cut 23 = .ok (.aload_n 0, 1) := by decide +kernel
theorem dX5_cut_24 : decode cX5_cut 24 = .ok (.iload_n 2, 1) := by decide +kernel
theorem dX5_cut_25 : decode cX5_cut 25 = .ok (.iconst 0, 1) := by decide +kernel
theorem dX5_cut_26 : decode cX5_cut 26 = .ok (.invokevirtual 25, 3) := by decide +kernel
theorem dX5_cut_29 : decode cX5_cut 29 = .ok (.istore 4, 2) := by decide +kernel
theorem dX5_cut_31 : decode cX5_cut 31 = .ok (.aload_n 0, 1) := by decide +kernel
theorem dX5_cut_32 : decode cX5_cut 32 = .ok (.iload 4, 2) := by decide +kernel
theorem dX5_cut_34 : decode cX5_cut 34 = .ok (.invokevirtual 29, 3) := by decide +kernel
theorem dX5_cut_37 : decode cX5_cut 37 = .ok (.tableswitch 80 1 3 #[27, 46, 65], 27) := by decide +kernel
theorem dX5_cut_64 : decode cX5_cut 64 = .ok (.aload_n 0, 1) := by decide +kernel
theorem dX5_cut_65 : decode cX5_cut 65 = .ok (.iload 4, 2) := by decide +kernel
theorem dX5_cut_67 : decode cX5_cut 67 = .ok (.iconst 1, 1) := by decide +kernel
theorem dX5_cut_68 : decode cX5_cut 68 = .ok (.invokevirtual 25, 3) := by decide +kernel
theorem dX5_cut_71 : decode cX5_cut 71 = .ok (.istore_n 2, 1) := by decide +kernel
theorem dX5_cut_72 : decode cX5_cut 72 = .ok (.aload_n 0, 1) := by decide +kernel
theorem dX5_cut_73 : decode cX5_cut 73 = .ok (.iload 4, 2) := by decide +kernel
theorem dX5_cut_75 : decode cX5_cut 75 = .ok (.iload_n 2, 1) := by decide +kernel
theorem dX5_cut_76 : decode cX5_cut 76 = .ok (.invokevirtual 33, 3) := by decide +kernel
theorem dX5_cut_79 : decode cX5_cut 79 = .ok (.istore_n 1, 1) := by decide +kernel
theorem dX5_cut_80 : decode cX5_cut 80 = .ok (.goto 52, 3) := by decide +kernel
theorem dX5_cut_83 : decode cX5_cut 83 = .ok (.aload_n 0, 1) := by decide +kernel
theorem dX5_cut_84 : decode cX5_cut 84 = .ok (.iload 4, 2) := by decide +kernel
theorem dX5_cut_86 : decode cX5_cut 86 = .ok (.iconst 2, 1) := by decide +kernel
theorem dX5_cut_87 : decode cX5_cut 87 = .ok (.invokevirtual 25, 3) := by decide +kernel
theorem dX5_cut_90 : decode cX5_cut 90 = .ok (.istore_n 2, 1) := by decide +kernel
theorem dX5_cut_91 : decode cX5_cut 91 = .ok (.aload_n 0, 1) := by decide +kernel
theorem dX5_cut_92 : decode cX5_cut 92 = .ok (.iload 4, 2) := by decide +kernel
theorem dX5_cut_94 : decode cX5_cut 94 = .ok (.iload_n 2, 1) := by decide +kernel
theorem dX5_cut_95 : decode cX5_cut 95 = .ok (.invokevirtual 36, 3) := by decide +kernel
theorem dX5_cut_98 : decode cX5_cut 98 = .ok (.istore_n 1, 1) := by decide +kernel
theorem dX5_cut_99 : decode cX5_cut 99 = .ok (.goto 33, 3) := by decide +kernel
theorem dX5_cut_102 : decode cX5_cut 102 = .ok (.iload 4, 2) := by decide +kernel
theorem dX5_cut_104 : decode cX5_cut 104 = .ok (.iconst 1, 1) := by decide +kernel
theorem dX5_cut_105 : decode cX5_cut 105 = .ok (.iadd, 1) := by decide +kernel
theorem dX5_cut_106 : decode cX5_cut 106 = .ok (.istore_n 2, 1) := by decide +kernel
theorem dX5_cut_107 : decode cX5_cut 107 = .ok (.aload_n 0, 1) := by decide +kernel
theorem dX5_cut_108 : decode cX5_cut 108 = .ok (.iload 4, 2) := by decide +kernel
theorem dX5_cut_110 : decode cX5_cut 110 = .ok (.invokevirtual 39, 3) := by decide +kernel
theorem dX5_cut_113 : decode cX5_cut 113 = .ok (.istore_n 1, 1) := by decide +kernel
theorem dX5_cut_114 : decode cX5_cut 114 = .ok (.goto 18, 3) := by decide +kernel
theorem dX5_cut_117 : decode cX5_cut 117 = .ok (.iload 4, 2) := by decide +kernel
theorem dX5_cut_119 : decode cX5_cut 119 = .ok (.aload_n 0, 1) := by decide +kernel
theorem dX5_cut_120 : decode cX5_cut 120 = .ok (.getfield 21, 3) := by decide +kernel
theorem dX5_cut_123 : decode cX5_cut 123 = .ok (.if_icmp .ge 7, 3) := by decide +kernel
theorem dX5_cut_126 : decode cX5_cut 126 = .ok (.iconst 2, 1) := by decide +kernel
theorem dX5_cut_127 : decode cX5_cut 127 = .ok (.goto 4, 3) := by decide +kernel
theorem dX5_cut_130 : decode cX5_cut 130 = .ok (.iconst 1, 1) := by decide +kernel
theorem dX5_cut_131 : decode cX5_cut 131 = .ok (.istore_n 1, 1) := by decide +kernel
theorem dX5_cut_132 : decode cX5_cut 132 = .ok (.aload_n 0, 1) := by decide +kernel
theorem dX5_cut_133 : decode cX5_cut 133 = .ok (.getfield 15, 3) := by decide +kernel
theorem dX5_cut_136 : decode cX5_cut 136 = .ok (.iload_n 3, 1) := by decide +kernel
theorem dX5_cut_137 : decode cX5_cut 137 = .ok (.iload_n 1, 1) := by decide +kernel
theorem dX5_cut_138 : decode cX5_cut 138 = .ok (.iastore, 1) := by decide +kernel
theorem dX5_cut_139 : decode cX5_cut 139 = .ok (.aload_n 0, 1) := by decide +kernel
theorem dX5_cut_140 : decode cX5_cut 140 = .ok (.getfield 18, 3) := by decide +kernel
theorem dX5_cut_143 : decode cX5_cut 143 = .ok (.iload_n 3, 1) := by decide +kernel
theorem dX5_cut_144 : decode cX5_cut 144 = .ok (.iload 4, 2) := by decide +kernel
theorem dX5_cut_146 : decode cX5_cut 146 = .ok (.iastore, 1) := by decide +kernel
theorem dX5_cut_147 : decode cX5_cut 147 = .ok (.iinc 3 1, 3) := by decide +kernel
theorem dX5_cut_150 : decode cX5_cut 150 = .ok (.goto (-144), 3) := by decide +kernel
theorem dX5_cut_153 : decode cX5_cut 153 = .ok (.return_, 1) := by decide +kernel
theorem dX5_behind_0 : decode cX5_behind 0 = .ok (.iload_n 1, 1) := by decide +kernel
theorem dX5_behind_1 : decode cX5_behind 1 = .ok (.istore_n 3, 1) := by decide +kernel
theorem dX5_behind_2 : decode cX5_behind 2 = .ok (.iload_n 3, 1) := by decide +kernel
theorem dX5_behind_3 : decode cX5_behind 3 = .ok (.aload_n 0, 1) := by decide +kernel
theorem dX5_behind_4 : decode cX5_behind 4 = .ok (.getfield 21, 3) := by decide +kernel
theorem dX5_behind_7 : decode cX5_behind 7 = .ok (.if_icmp .ge 18, 3) := by decide +kernel
theorem dX5_behind_10 : decode cX5_behind 10 = .ok (.aload_n 0, 1) := by decide +kernel
theorem dX5_behind_11 : decode cX5_behind 11 = .ok (.iload_n 3, 1) := by decide +kernel
theorem dX5_behind_12 : decode cX5_behind 12 = .ok (.invokevirtual 29, 3) := by decide +kernel
theorem dX5_behind_15 : decode cX5_behind 15 = .ok (.iload_n 2, 1) := by decide +kernel
theorem dX5_behind_16 : decode cX5_behind 16 = .ok (.if_icmp .ne 9, 3) := by decide +kernel
theorem dX5_behind_19 : decode cX5_behind 19 = .ok (.iinc 3 1, 3) := by decide +kernel
theorem dX5_behind_22 : decode cX5_behind 22 = .ok (.goto (-20), 3) := by decide +kernel
theorem dX5_behind_25 : decode cX5_behind 25 = .ok (.iload_n 3, 1) := by decide +kernel
theorem dX5_behind_26 : decode cX5_behind 26 = .ok (.ireturn, 1) := by decide +kernel
theorem dX5_numberToken_0 : decode cX5_numberToken 0 = .ok (.iload_n 2, 1) := by decide +kernel
theorem dX5_numberToken_1 : decode cX5_numberToken 1 = .ok (.iload_n 1, 1) := by decide +kernel
theorem dX5_numberToken_2 : decode cX5_numberToken 2 = .ok (.isub, 1) := by decide +kernel
theorem dX5_numberToken_3 : decode cX5_numberToken 3 = .ok (.iconst 4, 1) := by decide +kernel
theorem dX5_numberToken_4 : decode cX5_numberToken 4 = .ok (.if_icmp .le 5, 3) := by decide +kernel
theorem dX5_numberToken_7 : decode cX5_numberToken 7 = .ok (.iconst 2, 1) := by decide +kernel
theorem dX5_numberToken_8 : decode cX5_numberToken 8 = .ok (.ireturn, 1) := by decide +kernel
theorem dX5_numberToken_9 : decode cX5_numberToken 9 = .ok (.iconst 0, 1) := by decide +kernel
theorem dX5_numberToken_10 : decode cX5_numberToken 10 = .ok (.istore_n 3, 1) := by decide +kernel
theorem dX5_numberToken_11 : decode cX5_numberToken 11 = .ok (.iload_n 1, 1) := by decide +kernel
theorem dX5_numberToken_12 : decode cX5_numberToken 12 = .ok (.istore 4, 2) := by decide +kernel
theorem dX5_numberToken_14 : decode cX5_numberToken 14 = .ok (.iload 4, 2) := by decide +kernel
theorem dX5_numberToken_16 : decode cX5_numberToken 16 = .ok (.iload_n 2, 1) := by decide +kernel
theorem dX5_numberToken_17 : decode cX5_numberToken 17 = .ok (.if_icmp .ge 24, 3) := by decide +kernel
theorem dX5_numberToken_20 : decode cX5_numberToken 20 = .ok (.iload_n 3, 1) := by decide +kernel
theorem dX5_numberToken_21 : decode cX5_numberToken 21 = .ok (.bipush 10, 2) := by decide +kernel
theorem dX5_numberToken_23 : decode cX5_numberToken 23 = .ok (.imul, 1) := by decide +kernel
theorem dX5_numberToken_24 : decode cX5_numberToken 24 = .ok (.aload_n 0, 1) := by decide +kernel
theorem dX5_numberToken_25 : decode cX5_numberToken 25 = .ok (.iload 4, 2) := by decide +kernel
theorem dX5_numberToken_27 : decode cX5_numberToken 27 = .ok (.invokevirtual 39, 3) := by decide +kernel
theorem dX5_numberToken_30 : decode cX5_numberToken 30 = .ok (.iadd, 1) := by decide +kernel
theorem dX5_numberToken_31 : decode cX5_numberToken 31 = .ok (.bipush 48, 2) := by decide +kernel
theorem dX5_numberToken_33 : decode cX5_numberToken 33 = .ok (.isub, 1) := by decide +kernel
theorem dX5_numberToken_34 : decode cX5_numberToken 34 = .ok (.istore_n 3, 1) := by decide +kernel
theorem dX5_numberToken_35 : decode cX5_numberToken 35 = .ok (.iinc 4 1, 3) := by decide +kernel
theorem dX5_numberToken_38 : decode cX5_numberToken 38 = .ok (.goto (-24), 3) := by decide +kernel
theorem dX5_numberToken_41 : decode cX5_numberToken 41 = .ok (.sipush 1000, 3) := by decide +kernel
theorem dX5_numberToken_44 : decode cX5_numberToken 44 = .ok (.iload_n 3, 1) := by decide +kernel
theorem dX5_numberToken_45 : decode cX5_numberToken 45 = .ok (.iadd, 1) := by decide +kernel
theorem dX5_numberToken_46 : decode cX5_numberToken 46 = .ok (.ireturn, 1) := by decide +kernel
theorem dX5_wordToken_0 : decode cX5_wordToken 0 = .ok (.aload_n 0, 1) := by decide +kernel
theorem dX5_wordToken_1 : decode cX5_wordToken 1 = .ok (.ldc 42, 2) := by decide +kernel
theorem dX5_wordToken_3 : decode cX5_wordToken 3 = .ok (.iload_n 1, 1) := by decide +kernel
theorem dX5_wordToken_4 : decode cX5_wordToken 4 = .ok (.iload_n 2, 1) := by decide +kernel
theorem dX5_wordToken_5 : decode cX5_wordToken 5 = .ok (.invokevirtual 44, 3) := by decide +kernel
theorem dX5_wordToken_8 : decode cX5_wordToken 8 = .ok (.ifCond .eq 5, 3) := by decide +kernel
theorem dX5_wordToken_11 : decode cX5_wordToken 11 = .ok (.iconst 3, 1) := by decide +kernel
theorem dX5_wordToken_12 : decode cX5_wordToken 12 = .ok (.ireturn, 1) := by decide +kernel
theorem dX5_wordToken_13 : decode cX5_wordToken 13 = .ok (.aload_n 0, 1) := by decide +kernel
theorem dX5_wordToken_14 : decode cX5_wordToken 14 = .ok (.ldc 48, 2) := by decide +kernel
theorem dX5_wordToken_16 : decode cX5_wordToken 16 = .ok (.iload_n 1, 1) := by decide +kernel
theorem dX5_wordToken_17 : decode cX5_wordToken 17 = .ok (.iload_n 2, 1) := by decide +kernel
theorem dX5_wordToken_18 : decode cX5_wordToken 18 = .ok (.invokevirtual 44, 3) := by decide +kernel
theorem dX5_wordToken_21 : decode cX5_wordToken 21 = .ok (.ifCond .eq 5, 3) := by decide +kernel
theorem dX5_wordToken_24 : decode cX5_wordToken 24 = .ok (.iconst 4, 1) := by decide +kernel
theorem dX5_wordToken_25 : decode cX5_wordToken 25 = .ok (.ireturn, 1) := by decide +kernel
theorem dX5_wordToken_26 : decode cX5_wordToken 26 = .ok (.aload_n 0, 1) := by decide +kernel
theorem dX5_wordToken_27 : decode cX5_wordToken 27 = .ok (.ldc 50, 2) := by decide +kernel
theorem dX5_wordToken_29 : decode cX5_wordToken 29 = .ok (.iload_n 1, 1) := by decide +kernel
theorem dX5_wordToken_30 : decode cX5_wordToken 30 = .ok (.iload_n 2, 1) := by decide +kernel
theorem dX5_wordToken_31 : decode cX5_wordToken 31 = .ok (.invokevirtual 44, 3) := by decide +kernel
theorem dX5_wordToken_34 : decode cX5_wordToken 34 = .ok (.ifCond .eq 5, 3) := by decide +kernel
theorem dX5_wordToken_37 : decode cX5_wordToken 37 = .ok (.iconst 5, 1) := by decide +kernel
theorem dX5_wordToken_38 : decode cX5_wordToken 38 = .ok (.ireturn, 1) := by decide +kernel
theorem dX5_wordToken_39 : decode cX5_wordToken 39 = .ok (.aload_n 0, 1) := by decide +kernel
theorem dX5_wordToken_40 : decode cX5_wordToken 40 = .ok (.ldc 52, 2) := by decide +kernel
theorem dX5_wordToken_42 : decode cX5_wordToken 42 = .ok (.iload_n 1, 1) := by decide +kernel
theorem dX5_wordToken_43 : decode cX5_wordToken 43 = .ok (.iload_n 2, 1) := by decide +kernel
theorem dX5_wordToken_44 : decode cX5_wordToken 44 = .ok (.invokevirtual 44, 3) := by decide +kernel
theorem dX5_wordToken_47 : decode cX5_wordToken 47 = .ok (.ifCond .eq 6, 3) := by decide +kernel
theorem dX5_wordToken_50 : decode cX5_wordToken 50 = .ok (.bipush (-9), 2) := by decide +kernel
theorem dX5_wordToken_52 : decode cX5_wordToken 52 = .ok (.ireturn, 1) := by decide +kernel
theorem dX5_wordToken_53 : decode cX5_wordToken 53 = .ok (.aload_n 0, 1) := by decide +kernel
theorem dX5_wordToken_54 : decode cX5_wordToken 54 = .ok (.ldc 56, 2) := by decide +kernel
theorem dX5_wordToken_56 : decode cX5_wordToken 56 = .ok (.iload_n 1, 1) := by decide +kernel
theorem dX5_wordToken_57 : decode cX5_wordToken 57 = .ok (.iload_n 2, 1) := by decide +kernel
theorem dX5_wordToken_58 : decode cX5_wordToken 58 = .ok (.invokevirtual 44, 3) := by decide +kernel
theorem dX5_wordToken_61 : decode cX5_wordToken 61 = .ok (.ifCond .eq 6, 3) := by decide +kernel
theorem dX5_wordToken_64 : decode cX5_wordToken 64 = .ok (.bipush (-10), 2) := by decide +kernel
theorem dX5_wordToken_66 : decode cX5_wordToken 66 = .ok (.ireturn, 1) := by decide +kernel
theorem dX5_wordToken_67 : decode cX5_wordToken 67 = .ok (.aload_n 0, 1) := by decide +kernel
theorem dX5_wordToken_68 : decode cX5_wordToken 68 = .ok (.ldc 58, 2) := by decide +kernel
theorem dX5_wordToken_70 : decode cX5_wordToken 70 = .ok (.iload_n 1, 1) := by decide +kernel
theorem dX5_wordToken_71 : decode cX5_wordToken 71 = .ok (.iload_n 2, 1) := by decide +kernel
theorem dX5_wordToken_72 : decode cX5_wordToken 72 = .ok (.invokevirtual 44, 3) := by decide +kernel
theorem dX5_wordToken_75 : decode cX5_wordToken 75 = .ok (.ifCond .eq 6, 3) := by decide +kernel
theorem dX5_wordToken_78 : decode cX5_wordToken 78 = .ok (.bipush (-7), 2) := by decide +kernel
theorem dX5_wordToken_80 : decode cX5_wordToken 80 = .ok (.ireturn, 1) := by decide +kernel
theorem dX5_wordToken_81 : decode cX5_wordToken 81 = .ok (.aload_n 0, 1) := by decide +kernel
theorem dX5_wordToken_82 : decode cX5_wordToken 82 = .ok (.ldc 60, 2) := by decide +kernel
theorem dX5_wordToken_84 : decode cX5_wordToken 84 = .ok (.iload_n 1, 1) := by decide +kernel
theorem dX5_wordToken_85 : decode cX5_wordToken 85 = .ok (.iload_n 2, 1) := by decide +kernel
theorem dX5_wordToken_86 : decode cX5_wordToken 86 = .ok (.invokevirtual 44, 3) := by decide +kernel
theorem dX5_wordToken_89 : decode cX5_wordToken 89 = .ok (.ifCond .eq 5, 3) := by decide +kernel
theorem dX5_wordToken_92 : decode cX5_wordToken 92 = .ok (.iconst (-1), 1) := by decide +kernel
theorem dX5_wordToken_93 : decode cX5_wordToken 93 = .ok (.ireturn, 1) := by decide +kernel
theorem dX5_wordToken_94 : decode cX5_wordToken 94 = .ok (.aload_n 0, 1) := by decide +kernel
theorem dX5_wordToken_95 : decode cX5_wordToken 95 = .ok (.ldc 62, 2) := by decide +kernel
theorem dX5_wordToken_97 : decode cX5_wordToken 97 = .ok (.iload_n 1, 1) := by decide +kernel
theorem dX5_wordToken_98 : decode cX5_wordToken 98 = .ok (.iload_n 2, 1) := by decide +kernel
theorem dX5_wordToken_99 : decode cX5_wordToken 99 = .ok (.invokevirtual 44, 3) := by decide +kernel
theorem dX5_wordToken_102 : decode cX5_wordToken 102 = .ok (.ifCond .eq 6, 3) := by decide +kernel
theorem dX5_wordToken_105 : decode cX5_wordToken 105 = .ok (.bipush (-2), 2) := by decide +kernel
theorem dX5_wordToken_107 : decode cX5_wordToken 107 = .ok (.ireturn, 1) := by decide +kernel
theorem dX5_wordToken_108 : decode cX5_wordToken 108 = .ok (.aload_n 0, 1) := by decide +kernel
theorem dX5_wordToken_109 : decode cX5_wordToken 109 = .ok (.ldc 64, 2) := by decide +kernel
theorem dX5_wordToken_111 : decode cX5_wordToken 111 = .ok (.iload_n 1, 1) := by decide +kernel
theorem dX5_wordToken_112 : decode cX5_wordToken 112 = .ok (.iload_n 2, 1) := by decide +kernel
theorem dX5_wordToken_113 : decode cX5_wordToken 113 = .ok (.invokevirtual 44, 3) := by decide +kernel
theorem dX5_wordToken_116 : decode cX5_wordToken 116 = .ok (.ifCond .eq 6, 3) := by decide +kernel
theorem dX5_wordToken_119 : decode cX5_wordToken 119 = .ok (.bipush (-3), 2) := by decide +kernel
theorem dX5_wordToken_121 : decode cX5_wordToken 121 = .ok (.ireturn, 1) := by decide +kernel
theorem dX5_wordToken_122 : decode cX5_wordToken 122 = .ok (.aload_n 0, 1) := by decide +kernel
theorem dX5_wordToken_123 : decode cX5_wordToken 123 = .ok (.ldc 66, 2) := by decide +kernel
theorem dX5_wordToken_125 : decode cX5_wordToken 125 = .ok (.iload_n 1, 1) := by decide +kernel
theorem dX5_wordToken_126 : decode cX5_wordToken 126 = .ok (.iload_n 2, 1) := by decide +kernel
theorem dX5_wordToken_127 : decode cX5_wordToken 127 = .ok (.invokevirtual 44, 3) := by decide +kernel
theorem dX5_wordToken_130 : decode cX5_wordToken 130 = .ok (.ifCond .eq 6, 3) := by decide +kernel
theorem dX5_wordToken_133 : decode cX5_wordToken 133 = .ok (.bipush (-4), 2) := by decide +kernel
theorem dX5_wordToken_135 : decode cX5_wordToken 135 = .ok (.ireturn, 1) := by decide +kernel
theorem dX5_wordToken_136 : decode cX5_wordToken 136 = .ok (.aload_n 0, 1) := by decide +kernel
theorem dX5_wordToken_137 : decode cX5_wordToken 137 = .ok (.ldc 68, 2) := by decide +kernel
theorem dX5_wordToken_139 : decode cX5_wordToken 139 = .ok (.iload_n 1, 1) := by decide +kernel
theorem dX5_wordToken_140 : decode cX5_wordToken 140 = .ok (.iload_n 2, 1) := by decide +kernel
theorem dX5_wordToken_141 : decode cX5_wordToken 141 = .ok (.invokevirtual 44, 3) := by decide +kernel
theorem dX5_wordToken_144 : decode cX5_wordToken 144 = .ok (.ifCond .eq 6, 3) := by decide +kernel
theorem dX5_wordToken_147 : decode cX5_wordToken 147 = .ok (.bipush (-5), 2) := by decide +kernel
theorem dX5_wordToken_149 : decode cX5_wordToken 149 = .ok (.ireturn, 1) := by decide +kernel
theorem dX5_wordToken_150 : decode cX5_wordToken 150 = .ok (.aload_n 0, 1) := by decide +kernel
theorem dX5_wordToken_151 : decode cX5_wordToken 151 = .ok (.ldc 70, 2) := by decide +kernel
theorem dX5_wordToken_153 : decode cX5_wordToken 153 = .ok (.iload_n 1, 1) := by decide +kernel
theorem dX5_wordToken_154 : decode cX5_wordToken 154 = .ok (.iload_n 2, 1) := by decide +kernel
theorem dX5_wordToken_155 : decode cX5_wordToken 155 = .ok (.invokevirtual 44, 3) := by decide +kernel
theorem dX5_wordToken_158 : decode cX5_wordToken 158 = .ok (.ifCond .eq 6, 3) := by decide +kernel
theorem dX5_wordToken_161 : decode cX5_wordToken 161 = .ok (.bipush (-6), 2) := by decide +kernel
theorem dX5_wordToken_163 : decode cX5_wordToken 163 = .ok (.ireturn, 1) := by decide +kernel
theorem dX5_wordToken_164 : decode cX5_wordToken 164 = .ok (.iconst 2, 1) := by decide +kernel
theorem dX5_wordToken_165 : decode cX5_wordToken 165 = .ok (.ireturn, 1) := by decide +kernel
theorem dX5_isWord_0 : decode cX5_isWord 0 = .ok (.iload_n 3, 1) := by decide +kernel
theorem dX5_isWord_1 : decode cX5_isWord 1 = .ok (.iload_n 2, 1) := by decide +kernel
theorem dX5_isWord_2 : decode cX5_isWord 2 = .ok (.isub, 1) := by decide +kernel
theorem dX5_isWord_3 : decode cX5_isWord 3 = .ok (.aload_n 1, 1) := by decide +kernel
theorem dX5_isWord_4 : decode cX5_isWord 4 = .ok (.invokevirtual 72, 3) := by decide +kernel
theorem dX5_isWord_7 : decode cX5_isWord 7 = .ok (.if_icmp .eq 5, 3) := by decide +kernel
theorem dX5_isWord_10 : decode cX5_isWord 10 = .ok (.iconst 0, 1) := by decide +kernel
theorem dX5_isWord_11 : decode cX5_isWord 11 = .ok (.ireturn, 1) := by decide +kernel
theorem dX5_isWord_12 : decode cX5_isWord 12 = .ok (.iconst 0, 1) := by decide +kernel
theorem dX5_isWord_13 : decode cX5_isWord 13 = .ok (.istore 4, 2) := by decide +kernel
theorem dX5_isWord_15 : decode cX5_isWord 15 = .ok (.iload 4, 2) := by decide +kernel
theorem dX5_isWord_17 : decode cX5_isWord 17 = .ok (.aload_n 1, 1) := by decide +kernel
theorem dX5_isWord_18 : decode cX5_isWord 18 = .ok (.invokevirtual 72, 3) := by decide +kernel
theorem dX5_isWord_21 : decode cX5_isWord 21 = .ok (.if_icmp .ge 28, 3) := by decide +kernel
theorem dX5_isWord_24 : decode cX5_isWord 24 = .ok (.aload_n 0, 1) := by decide +kernel
theorem dX5_isWord_25 : decode cX5_isWord 25 = .ok (.iload_n 2, 1) := by decide +kernel
theorem dX5_isWord_26 : decode cX5_isWord 26 = .ok (.iload 4, 2) := by decide +kernel
theorem dX5_isWord_28 : decode cX5_isWord 28 = .ok (.iadd, 1) := by decide +kernel
theorem dX5_isWord_29 : decode cX5_isWord 29 = .ok (.invokevirtual 39, 3) := by decide +kernel
theorem dX5_isWord_32 : decode cX5_isWord 32 = .ok (.aload_n 1, 1) := by decide +kernel
theorem dX5_isWord_33 : decode cX5_isWord 33 = .ok (.iload 4, 2) := by decide +kernel
theorem dX5_isWord_35 : decode cX5_isWord 35 = .ok (.invokevirtual 78, 3) := by decide +kernel
theorem dX5_isWord_38 : decode cX5_isWord 38 = .ok (.if_icmp .eq 5, 3) := by decide +kernel
theorem dX5_isWord_41 : decode cX5_isWord 41 = .ok (.iconst 0, 1) := by decide +kernel
theorem dX5_isWord_42 : decode cX5_isWord 42 = .ok (.ireturn, 1) := by decide +kernel
theorem dX5_isWord_43 : decode cX5_isWord 43 = .ok (.iinc 4 1, 3) := by decide +kernel
theorem dX5_isWord_46 : decode cX5_isWord 46 = .ok (.goto (-31), 3) := by decide +kernel
theorem dX5_isWord_49 : decode cX5_isWord 49 = .ok (.iconst 1, 1) := by decide +kernel
theorem dX5_isWord_50 : decode cX5_isWord 50 = .ok (.ireturn, 1) := by decide +kernel
theorem dX5_byteAt_0 : decode cX5_byteAt 0 = .ok (.iload_n 1, 1) := by decide +kernel
theorem dX5_byteAt_1 : decode cX5_byteAt 1 = .ok (.ifCond .lt 27, 3) := by decide +kernel
theorem dX5_byteAt_4 : decode cX5_byteAt 4 = .ok (.iload_n 1, 1) := by decide +kernel
theorem dX5_byteAt_5 : decode cX5_byteAt 5 = .ok (.aload_n 0, 1) := by decide +kernel
theorem dX5_byteAt_6 : decode cX5_byteAt 6 = .ok (.getfield 21, 3) := by decide +kernel
theorem dX5_byteAt_9 : decode cX5_byteAt 9 = .ok (.if_icmp .ge 19, 3) := by decide +kernel
theorem dX5_byteAt_12 : decode cX5_byteAt 12 = .ok (.iload_n 1, 1) := by decide +kernel
theorem dX5_byteAt_13 : decode cX5_byteAt 13 = .ok (.sipush 160, 3) := by decide +kernel
theorem dX5_byteAt_16 : decode cX5_byteAt 16 = .ok (.if_icmp .ge 12, 3) := by decide +kernel
theorem dX5_byteAt_19 : decode cX5_byteAt 19 = .ok (.aload_n 0, 1) := by decide +kernel
theorem dX5_byteAt_20 : decode cX5_byteAt 20 = .ok (.getfield 9, 3) := by decide +kernel
theorem dX5_byteAt_23 : decode cX5_byteAt 23 = .ok (.iload_n 1, 1) := by decide +kernel
theorem dX5_byteAt_24 : decode cX5_byteAt 24 = .ok (.iaload, 1) := by decide +kernel
theorem dX5_byteAt_25 : decode cX5_byteAt 25 = .ok (.goto 4, 3) := by decide +kernel
theorem dX5_byteAt_28 : decode cX5_byteAt 28 = .ok (.iconst (-1), 1) := by decide +kernel
theorem dX5_byteAt_29 : decode cX5_byteAt 29 = .ok (.ireturn, 1) := by decide +kernel
theorem dX5_sortAt_0 : decode cX5_sortAt 0 = .ok (.aload_n 0, 1) := by decide +kernel
theorem dX5_sortAt_1 : decode cX5_sortAt 1 = .ok (.iload_n 1, 1) := by decide +kernel
theorem dX5_sortAt_2 : decode cX5_sortAt 2 = .ok (.invokevirtual 39, 3) := by decide +kernel
theorem dX5_sortAt_5 : decode cX5_sortAt 5 = .ok (.istore_n 2, 1) := by decide +kernel
theorem dX5_sortAt_6 : decode cX5_sortAt 6 = .ok (.iload_n 2, 1) := by decide +kernel
theorem dX5_sortAt_7 : decode cX5_sortAt 7 = .ok (.bipush 48, 2) := by decide +kernel
theorem dX5_sortAt_9 : decode cX5_sortAt 9 = .ok (.if_icmp .lt 11, 3) := by decide +kernel
theorem dX5_sortAt_12 : decode cX5_sortAt 12 = .ok (.iload_n 2, 1) := by decide +kernel
theorem dX5_sortAt_13 : decode cX5_sortAt 13 = .ok (.bipush 57, 2) := by decide +kernel
theorem dX5_sortAt_15 : decode cX5_sortAt 15 = .ok (.if_icmp .gt 5, 3) := by decide +kernel
theorem dX5_sortAt_18 : decode cX5_sortAt 18 = .ok (.iconst 1, 1) := by decide +kernel
theorem dX5_sortAt_19 : decode cX5_sortAt 19 = .ok (.ireturn, 1) := by decide +kernel
theorem dX5_sortAt_20 : decode cX5_sortAt 20 = .ok (.iload_n 2, 1) := by decide +kernel
theorem dX5_sortAt_21 : decode cX5_sortAt 21 = .ok (.bipush 97, 2) := by decide +kernel
theorem dX5_sortAt_23 : decode cX5_sortAt 23 = .ok (.if_icmp .lt 11, 3) := by decide +kernel
theorem dX5_sortAt_26 : decode cX5_sortAt 26 = .ok (.iload_n 2, 1) := by decide +kernel
theorem dX5_sortAt_27 : decode cX5_sortAt 27 = .ok (.bipush 122, 2) := by decide +kernel
theorem dX5_sortAt_29 : decode cX5_sortAt 29 = .ok (.if_icmp .gt 5, 3) := by decide +kernel
theorem dX5_sortAt_32 : decode cX5_sortAt 32 = .ok (.iconst 2, 1) := by decide +kernel
theorem dX5_sortAt_33 : decode cX5_sortAt 33 = .ok (.ireturn, 1) := by decide +kernel
theorem dX5_sortAt_34 : decode cX5_sortAt 34 = .ok (.iload_n 2, 1) := by decide +kernel
theorem dX5_sortAt_35 : decode cX5_sortAt 35 = .ok (.lookupswitch 93 #[(10, 89), (32, 89), (40, 91), (41, 91), (42, 91), (43, 91), (45, 91), (59, 91), (60, 91), (61, 91)], 89) := by decide +kernel
theorem dX5_sortAt_124 : decode cX5_sortAt 124 = .ok (.iconst 0, 1) := by decide +kernel
theorem dX5_sortAt_125 : decode cX5_sortAt 125 = .ok (.ireturn, 1) := by decide +kernel
theorem dX5_sortAt_126 : decode cX5_sortAt 126 = .ok (.iconst 3, 1) := by decide +kernel
theorem dX5_sortAt_127 : decode cX5_sortAt 127 = .ok (.ireturn, 1) := by decide +kernel
theorem dX5_sortAt_128 : decode cX5_sortAt 128 = .ok (.iconst 4, 1) := by decide +kernel
theorem dX5_sortAt_129 : decode cX5_sortAt 129 = .ok (.ireturn, 1) := by decide +kernel
theorem dX6_init_0 : decode cX6_init 0 = .ok (.aload_n 0, 1) := by decide +kernel
theorem dX6_init_1 : decode cX6_init 1 = .ok (.invokespecial 3, 3) := by decide +kernel
theorem dX6_init_4 : decode cX6_init 4 = .ok (.aload_n 0, 1) := by decide +kernel
theorem dX6_init_5 : decode cX6_init 5 = .ok (.sipush 160, 3) := by decide +kernel
theorem dX6_init_8 : decode cX6_init 8 = .ok (.newarray .int, 2) := by decide +kernel
theorem dX6_init_10 : decode cX6_init 10 = .ok (.putfield 9, 3) := by decide +kernel
theorem dX6_init_13 : decode cX6_init 13 = .ok (.aload_n 0, 1) := by decide +kernel
theorem dX6_init_14 : decode cX6_init 14 = .ok (.bipush 40, 2) := by decide +kernel
theorem dX6_init_16 : decode cX6_init 16 = .ok (.newarray .int, 2) := by decide +kernel
theorem dX6_init_18 : decode cX6_init 18 = .ok (.putfield 15, 3) := by decide +kernel
theorem dX6_init_21 : decode cX6_init 21 = .ok (.aload_n 0, 1) := by decide +kernel
theorem dX6_init_22 : decode cX6_init 22 = .ok (.iload_n 1, 1) := by decide +kernel
theorem dX6_init_23 : decode cX6_init 23 = .ok (.putfield 18, 3) := by decide +kernel
theorem dX6_init_26 : decode cX6_init 26 = .ok (.return_, 1) := by decide +kernel
theorem dX6_clear_0 : decode cX6_clear 0 = .ok (.aload_n 0, 1) := by decide +kernel
theorem dX6_clear_1 : decode cX6_clear 1 = .ok (.iconst 0, 1) := by decide +kernel
theorem dX6_clear_2 : decode cX6_clear 2 = .ok (.putfield 22, 3) := by decide +kernel
theorem dX6_clear_5 : decode cX6_clear 5 = .ok (.return_, 1) := by decide +kernel
theorem dX6_add_0 : decode cX6_add 0 = .ok (.aload_n 0, 1) := by decide +kernel
theorem dX6_add_1 : decode cX6_add 1 = .ok (.getfield 22, 3) := by decide +kernel
theorem dX6_add_4 : decode cX6_add 4 = .ok (.ifCond .lt 33, 3) := by decide +kernel
theorem dX6_add_7 : decode cX6_add 7 = .ok (.aload_n 0, 1) := by decide +kernel
theorem dX6_add_8 : decode cX6_add 8 = .ok (.getfield 22, 3) := by decide +kernel
theorem dX6_add_11 : decode cX6_add 11 = .ok (.sipush 160, 3) := by decide +kernel
theorem dX6_add_14 : decode cX6_add 14 = .ok (.if_icmp .ge 23, 3) := by decide +kernel
theorem dX6_add_17 : decode cX6_add 17 = .ok (.aload_n 0, 1) := by decide +kernel
theorem dX6_add_18 : decode cX6_add 18 = .ok (.getfield 9, 3) := by decide +kernel
theorem dX6_add_21 : decode cX6_add 21 = .ok (.aload_n 0, 1) := by decide +kernel
theorem dX6_add_22 : decode cX6_add 22 = .ok (.getfield 22, 3) := by decide +kernel
theorem dX6_add_25 : decode cX6_add 25 = .ok (.iload_n 1, 1) := by decide +kernel
theorem dX6_add_26 : decode cX6_add 26 = .ok (.iastore, 1) := by decide +kernel
theorem dX6_add_27 : decode cX6_add 27 = .ok (.aload_n 0, 1) := by decide +kernel
theorem dX6_add_28 : decode cX6_add 28 = .ok (.dup, 1) := by decide +kernel
theorem dX6_add_29 : decode cX6_add 29 = .ok (.getfield 22, 3) := by decide +kernel
theorem dX6_add_32 : decode cX6_add 32 = .ok (.iconst 1, 1) := by decide +kernel
theorem dX6_add_33 : decode cX6_add 33 = .ok (.iadd, 1) := by decide +kernel
theorem dX6_add_34 : decode cX6_add 34 = .ok (.putfield 22, 3) := by decide +kernel
theorem dX6_add_37 : decode cX6_add 37 = .ok (.return_, 1) := by decide +kernel
theorem dX6_startRaises_0 : decode cX6_startRaises 0 = .ok (.aload_n 0, 1) := by decide +kernel
theorem dX6_startRaises_1 : decode cX6_startRaises 1 = .ok (.aload_n 0, 1) := by decide +kernel
theorem dX6_startRaises_2 : decode cX6_startRaises 2 = .ok (.getfield 22, 3) := by decide +kernel
theorem dX6_startRaises_5 : decode cX6_startRaises 5 = .ok (.putfield 25, 3) := by decide +kernel
theorem dX6_startRaises_8 : decode cX6_startRaises 8 = .ok (.return_, 1) := by decide +kernel
theorem dX6_startWorth_0 : decode cX6_startWorth 0 = .ok (.aload_n 0, 1) := by decide +kernel
theorem dX6_startWorth_1 : decode cX6_startWorth 1 = .ok (.aload_n 0, 1) := by decide +kernel
theorem dX6_startWorth_2 : decode cX6_startWorth 2 = .ok (.getfield 22, 3) := by decide +kernel
theorem dX6_startWorth_5 : decode cX6_startWorth 5 = .ok (.putfield 28, 3) := by decide +kernel
theorem dX6_startWorth_8 : decode cX6_startWorth 8 = .ok (.return_, 1) := by decide +kernel
theorem dX6_strikeOn_0 : decode cX6_strikeOn 0 = .ok (.bipush 99, 2) := by decide +kernel
theorem dX6_strikeOn_2 : decode cX6_strikeOn 2 = .ok (.aload_n 0, 1) := by decide +kernel
theorem dX6_strikeOn_3 : decode cX6_strikeOn 3 = .ok (.iconst 0, 1) := by decide +kernel
theorem dX6_strikeOn_4 : decode cX6_strikeOn 4 = .ok (.aload_n 0, 1) := by decide +kernel
theorem dX6_strikeOn_5 : decode cX6_strikeOn 5 = .ok (.getfield 25, 3) := by decide +kernel
theorem dX6_strikeOn_8 : decode cX6_strikeOn 8 = .ok (.aload_n 1, 1) := by decide +kernel
theorem dX6_strikeOn_9 : decode cX6_strikeOn 9 = .ok (.aload_n 2, 1) := by decide +kernel
theorem dX6_strikeOn_10 : decode cX6_strikeOn 10 = .ok (.invokevirtual 31, 3) := by decide +kernel
theorem dX6_strikeOn_13 : decode cX6_strikeOn 13 = .ok (.invokestatic 35, 3) := by decide +kernel
theorem dX6_strikeOn_16 : decode cX6_strikeOn 16 = .ok (.ireturn, 1) := by decide +kernel
theorem dX6_raiseOf_0 : decode cX6_raiseOf 0 = .ok (.bipush 20, 2) := by decide +kernel
theorem dX6_raiseOf_2 : decode cX6_raiseOf 2 = .ok (.aload_n 0, 1) := by decide +kernel
theorem dX6_raiseOf_3 : decode cX6_raiseOf 3 = .ok (.aload_n 0, 1) := by decide +kernel
theorem dX6_raiseOf_4 : decode cX6_raiseOf 4 = .ok (.getfield 25, 3) := by decide +kernel
theorem dX6_raiseOf_7 : decode cX6_raiseOf 7 = .ok (.aload_n 0, 1) := by decide +kernel
theorem dX6_raiseOf_8 : decode cX6_raiseOf 8 = .ok (.getfield 28, 3) := by decide +kernel
theorem dX6_raiseOf_11 : decode cX6_raiseOf 11 = .ok (.aload_n 1, 1) := by decide +kernel
theorem dX6_raiseOf_12 : decode cX6_raiseOf 12 = .ok (.aload_n 2, 1) := by decide +kernel
theorem dX6_raiseOf_13 : decode cX6_raiseOf 13 = .ok (.invokevirtual 31, 3) := by decide +kernel
theorem dX6_raiseOf_16 : decode cX6_raiseOf 16 = .ok (.invokestatic 35, 3) := by decide +kernel
theorem dX6_raiseOf_19 : decode cX6_raiseOf 19 = .ok (.ireturn, 1) := by decide +kernel
theorem dX6_worthOf_0 : decode cX6_worthOf 0 = .ok (.bipush 99, 2) := by decide +kernel
theorem dX6_worthOf_2 : decode cX6_worthOf 2 = .ok (.aload_n 0, 1) := by decide +kernel
theorem dX6_worthOf_3 : decode cX6_worthOf 3 = .ok (.aload_n 0, 1) := by decide +kernel
theorem dX6_worthOf_4 : decode cX6_worthOf 4 = .ok (.getfield 28, 3) := by decide +kernel
theorem dX6_worthOf_7 : decode cX6_worthOf 7 = .ok (.aload_n 0, 1) := by decide +kernel
theorem dX6_worthOf_8 : decode cX6_worthOf 8 = .ok (.getfield 22, 3) := by decide +kernel
theorem dX6_worthOf_11 : decode cX6_worthOf 11 = .ok (.aload_n 1, 1) := by decide +kernel
theorem dX6_worthOf_12 : decode cX6_worthOf 12 = .ok (.aload_n 2, 1) := by decide +kernel
theorem dX6_worthOf_13 : decode cX6_worthOf 13 = .ok (.invokevirtual 31, 3) := by decide +kernel
theorem dX6_worthOf_16 : decode cX6_worthOf 16 = .ok (.invokestatic 35, 3) := by decide +kernel
theorem dX6_worthOf_19 : decode cX6_worthOf 19 = .ok (.ireturn, 1) := by decide +kernel
theorem dX6_tell_0 : decode cX6_tell 0 = .ok (.aload_n 0, 1) := by decide +kernel
theorem dX6_tell_1 : decode cX6_tell 1 = .ok (.iconst 0, 1) := by decide +kernel
theorem dX6_tell_2 : decode cX6_tell 2 = .ok (.putfield 41, 3) := by decide +kernel
theorem dX6_tell_5 : decode cX6_tell 5 = .ok (.iload_n 1, 1) := by decide +kernel
theorem dX6_tell_6 : decode cX6_tell 6 = .ok (.istore 5, 2) := by decide +kernel
theorem dX6_tell_8 : decode cX6_tell 8 = .ok (.iload 5, 2) := by decide +kernel
theorem dX6_tell_10 : decode cX6_tell 10 = .ok (.ifCond .lt 135, 3) := by decide +kernel
theorem dX6_tell_13 : decode cX6_tell 13 = .ok (.iload 5, 2) := by decide +kernel
theorem dX6_tell_15 : decode cX6_tell 15 = .ok (.iload_n 2, 1) := by decide +kernel
theorem dX6_tell_16 : decode cX6_tell 16 = .ok (.if_icmp .ge 129, 3) := by decide +kernel
theorem dX6_tell_19 : decode cX6_tell 19 = .ok (.iload 5, 2) := by decide +kernel
theorem dX6_tell_21 : decode cX6_tell 21 = .ok (.sipush 160, 3) := by decide +kernel
theorem dX6_tell_24 : decode cX6_tell 24 = .ok (.if_icmp .ge 121, 3) := by decide +kernel
theorem dX6_tell_27 : decode cX6_tell 27 = .ok (.aload_n 0, 1) := by decide +kernel
theorem dX6_tell_28 : decode cX6_tell 28 = .ok (.getfield 9, 3) := by decide +kernel
theorem dX6_tell_31 : decode cX6_tell 31 = .ok (.iload 5, 2) := by decide +kernel
theorem dX6_tell_33 : decode cX6_tell 33 = .ok (.iaload, 1) := by decide +kernel
theorem dX6_tell_34 : decode cX6_tell 34 = .ok (.istore 6, 2) := by decide +kernel
theorem dX6_tell_36 : decode cX6_tell 36 = .ok (.iload 6, 2) := by decide +kernel
theorem dX6_tell_38 : decode cX6_tell 38 = .ok (.ifCond .lt 12, 3) := by decide +kernel
theorem dX6_tell_41 : decode cX6_tell 41 = .ok (.aload_n 0, 1) := by decide +kernel
theorem dX6_tell_42 : decode cX6_tell 42 = .ok (.iload 6, 2) := by decide +kernel
theorem dX6_tell_44 : decode cX6_tell 44 = .ok (.invokevirtual 44, 3) := by decide +kernel
theorem dX6_tell_47 : decode cX6_tell 47 = .ok (.goto 92, 3) := by decide +kernel
theorem dX6_tell_50 : decode cX6_tell 50 = .ok (.iload 6, 2) := by decide +kernel
theorem dX6_tell_52 : decode cX6_tell 52 = .ok (.bipush (-6), 2) := by decide +kernel
theorem dX6_tell_54 : decode cX6_tell 54 = .ok (.if_icmp .lt 18, 3) := by decide +kernel
theorem dX6_tell_57 : decode cX6_tell 57 = .ok (.aload_n 0, 1) := by decide +kernel
theorem dX6_tell_58 : decode cX6_tell 58 = .ok (.iload 6, 2) := by decide +kernel
theorem dX6_tell_60 : decode cX6_tell 60 = .ok (.aload_n 3, 1) := by decide +kernel
theorem dX6_tell_61 : decode cX6_tell 61 = .ok (.aload 4, 2) := by decide +kernel
theorem dX6_tell_63 : decode cX6_tell 63 = .ok (.invokestatic 48, 3) := by decide +kernel
theorem dX6_tell_66 : decode cX6_tell 66 = .ok (.invokevirtual 44, 3) := by decide +kernel
theorem dX6_tell_69 : decode cX6_tell 69 = .ok (.goto 70, 3) := by decide +kernel
theorem dX6_tell_72 : decode cX6_tell 72 = .ok (.iload 6, 2) := by decide +kernel
theorem dX6_tell_74 : decode cX6_tell 74 = .ok (.bipush (-8), 2) := by decide +kernel
theorem dX6_tell_76 : decode cX6_tell 76 = .ok (.if_icmp .lt 42, 3) := by decide +kernel
theorem dX6_tell_79 : decode cX6_tell 79 = .ok (.aload_n 0, 1) := by decide +kernel
theorem dX6_tell_80 : decode cX6_tell 80 = .ok (.invokevirtual 52, 3) := by decide +kernel
theorem dX6_tell_83 : decode cX6_tell 83 = .ok (.istore 7, 2) := by decide +kernel
theorem dX6_tell_85 : decode cX6_tell 85 = .ok (.aload_n 0, 1) := by decide +kernel
theorem dX6_tell_86 : decode cX6_tell 86 = .ok (.iload 6, 2) := by decide +kernel
theorem dX6_tell_88 : decode cX6_tell 88 = .ok (.bipush (-8), 2) := by decide +kernel
theorem dX6_tell_90 : decode cX6_tell 90 = .ok (.if_icmp .ne 9, 3) := by decide +kernel
theorem dX6_tell_93 : decode cX6_tell 93 = .ok (.iload 7, 2) := by decide +kernel
theorem dX6_tell_95 : decode cX6_tell 95 = .ok (.ineg, 1) := by decide +kernel
theorem dX6_tell_96 : decode cX6_tell 96 = .ok (.goto 16, 3) := by decide +kernel
theorem dX6_tell_99 : decode cX6_tell 99 = .ok (.iload 7, 2) := by decide +kernel
theorem dX6_tell_101 : decode cX6_tell 101 = .ok (.ifCond .ne 7, 3) := by decide +kernel
theorem dX6_tell_104 : decode cX6_tell 104 = .ok (.iconst 1, 1) := by decide +kernel
theorem dX6_tell_105 : decode cX6_tell 105 = .ok (.goto 4, 3) := by decide +kernel
theorem dX6_tell_108 : decode cX6_tell 108 = .ok (.iconst 0, 1) := by decide +kernel
theorem dX6_tell_109 : decode cX6_tell 109 = .ok (.invokestatic 56, 3) := by decide +kernel
theorem dX6_tell_112 : decode cX6_tell 112 = .ok (.invokevirtual 44, 3) := by decide +kernel
theorem dX6_tell_115 : decode cX6_tell 115 = .ok (.goto 24, 3) := by decide +kernel
theorem dX6_tell_118 : decode cX6_tell 118 = .ok (.aload_n 0, 1) := by decide +kernel
theorem dX6_tell_119 : decode cX6_tell 119 = .ok (.invokevirtual 52, 3) := by decide +kernel
theorem dX6_tell_122 : decode cX6_tell 122 = .ok (.istore 7, 2) := by decide +kernel
theorem dX6_tell_124 : decode cX6_tell 124 = .ok (.aload_n 0, 1) := by decide +kernel
theorem dX6_tell_125 : decode cX6_tell 125 = .ok (.iload 6, 2) := by decide +kernel
theorem dX6_tell_127 : decode cX6_tell 127 = .ok (.aload_n 0, 1) := by decide +kernel
theorem dX6_tell_128 : decode cX6_tell 128 = .ok (.invokevirtual 52, 3) := by decide +kernel
theorem dX6_tell_131 : decode cX6_tell 131 = .ok (.iload 7, 2) := by decide +kernel
theorem dX6_tell_133 : decode cX6_tell 133 = .ok (.invokestatic 60, 3) := by decide +kernel
theorem dX6_tell_136 : decode cX6_tell 136 = .ok (.invokevirtual 44, 3) := by decide +kernel
theorem dX6_tell_139 : decode cX6_tell 139 = .ok (.iinc 5 1, 3) := by decide +kernel
theorem dX6_tell_142 : decode cX6_tell 142 = .ok (.goto (-134), 3) := by decide +kernel
theorem dX6_tell_145 : decode cX6_tell 145 = .ok (.iconst 0, 1) := by decide +kernel
theorem dX6_tell_146 : decode cX6_tell 146 = .ok (.aload_n 0, 1) := by decide +kernel
theorem dX6_tell_147 : decode cX6_tell 147 = .ok (.invokevirtual 52, 3) := by decide +kernel
theorem dX6_tell_150 : decode cX6_tell 150 = .ok (.invokestatic 64, 3) := by decide +kernel
theorem dX6_tell_153 : decode cX6_tell 153 = .ok (.ireturn, 1) := by decide +kernel
theorem dX6_push_0 : decode cX6_push 0 = .ok (.aload_n 0, 1) := by decide +kernel
theorem dX6_push_1 : decode cX6_push 1 = .ok (.getfield 41, 3) := by decide +kernel
theorem dX6_push_4 : decode cX6_push 4 = .ok (.ifCond .lt 32, 3) := by decide +kernel
theorem dX6_push_7 : decode cX6_push 7 = .ok (.aload_n 0, 1) := by decide +kernel
theorem dX6_push_8 : decode cX6_push 8 = .ok (.getfield 41, 3) := by decide +kernel
theorem dX6_push_11 : decode cX6_push 11 = .ok (.bipush 40, 2) := by decide +kernel
theorem dX6_push_13 : decode cX6_push 13 = .ok (.if_icmp .ge 23, 3) := by decide +kernel
theorem dX6_push_16 : decode cX6_push 16 = .ok (.aload_n 0, 1) := by decide +kernel
theorem dX6_push_17 : decode cX6_push 17 = .ok (.getfield 15, 3) := by decide +kernel
theorem dX6_push_20 : decode cX6_push 20 = .ok (.aload_n 0, 1) := by decide +kernel
theorem dX6_push_21 : decode cX6_push 21 = .ok (.getfield 41, 3) := by decide +kernel
theorem dX6_push_24 : decode cX6_push 24 = .ok (.iload_n 1, 1) := by decide +kernel
theorem dX6_push_25 : decode cX6_push 25 = .ok (.iastore, 1) := by decide +kernel
theorem dX6_push_26 : decode cX6_push 26 = .ok (.aload_n 0, 1) := by decide +kernel
theorem dX6_push_27 : decode cX6_push 27 = .ok (.dup, 1) := by decide +kernel
theorem dX6_push_28 : decode cX6_push 28 = .ok (.getfield 41, 3) := by decide +kernel
theorem dX6_push_31 : decode cX6_push 31 = .ok (.iconst 1, 1) := by decide +kernel
theorem dX6_push_32 : decode cX6_push 32 = .ok (.iadd, 1) := by decide +kernel
theorem dX6_push_33 : decode cX6_push 33 = .ok (.putfield 41, 3) := by decide +kernel
theorem dX6_push_36 : decode cX6_push 36 = .ok (.return_, 1) := by decide +kernel
theorem dX6_pop_0 : decode cX6_pop 0 = .ok (.aload_n 0, 1) := by decide +kernel
theorem dX6_pop_1 : decode cX6_pop 1 = .ok (.getfield 41, 3) := by decide +kernel
theorem dX6_pop_4 : decode cX6_pop 4 = .ok (.iconst 1, 1) := by decide +kernel
theorem dX6_pop_5 : decode cX6_pop 5 = .ok (.if_icmp .lt 12, 3) := by decide +kernel
theorem dX6_pop_8 : decode cX6_pop 8 = .ok (.aload_n 0, 1) := by decide +kernel
theorem dX6_pop_9 : decode cX6_pop 9 = .ok (.getfield 41, 3) := by decide +kernel
theorem dX6_pop_12 : decode cX6_pop 12 = .ok (.bipush 40, 2) := by decide +kernel
theorem dX6_pop_14 : decode cX6_pop 14 = .ok (.if_icmp .le 5, 3) := by decide +kernel
theorem dX6_pop_17 : decode cX6_pop 17 = .ok (.iconst 0, 1) := by decide +kernel
theorem dX6_pop_18 : decode cX6_pop 18 = .ok (.ireturn, 1) := by decide +kernel
theorem dX6_pop_19 : decode cX6_pop 19 = .ok (.aload_n 0, 1) := by decide +kernel
theorem dX6_pop_20 : decode cX6_pop 20 = .ok (.dup, 1) := by decide +kernel
theorem dX6_pop_21 : decode cX6_pop 21 = .ok (.getfield 41, 3) := by decide +kernel
theorem dX6_pop_24 : decode cX6_pop 24 = .ok (.iconst 1, 1) := by decide +kernel
theorem dX6_pop_25 : decode cX6_pop 25 = .ok (.isub, 1) := by decide +kernel
theorem dX6_pop_26 : decode cX6_pop 26 = .ok (.putfield 41, 3) := by decide +kernel
theorem dX6_pop_29 : decode cX6_pop 29 = .ok (.aload_n 0, 1) := by decide +kernel
theorem dX6_pop_30 : decode cX6_pop 30 = .ok (.getfield 15, 3) := by decide +kernel
theorem dX6_pop_33 : decode cX6_pop 33 = .ok (.aload_n 0, 1) := by decide +kernel
theorem dX6_pop_34 : decode cX6_pop 34 = .ok (.getfield 41, 3) := by decide +kernel
theorem dX6_pop_37 : decode cX6_pop 37 = .ok (.iaload, 1) := by decide +kernel
theorem dX6_pop_38 : decode cX6_pop 38 = .ok (.ireturn, 1) := by decide +kernel
theorem dX6_named_0 : decode cX6_named 0 = .ok (.iload_n 0, 1) := by decide +kernel
theorem dX6_named_1 : decode cX6_named 1 = .ok (.tableswitch 60 (-5) (-1) #[55, 50, 45, 40, 35], 35) := by decide +kernel
theorem dX6_named_36 : decode cX6_named 36 = .ok (.aload_n 1, 1) := by decide +kernel
theorem dX6_named_37 : decode cX6_named 37 = .ok (.getfield 67, 3) := by decide +kernel
theorem dX6_named_40 : decode cX6_named 40 = .ok (.ireturn, 1) := by decide +kernel
theorem dX6_named_41 : decode cX6_named 41 = .ok (.aload_n 1, 1) := by decide +kernel
theorem dX6_named_42 : decode cX6_named 42 = .ok (.getfield 72, 3) := by decide +kernel
theorem dX6_named_45 : decode cX6_named 45 = .ok (.ireturn, 1) := by decide +kernel
theorem dX6_named_46 : decode cX6_named 46 = .ok (.aload_n 2, 1) := by decide +kernel
theorem dX6_named_47 : decode cX6_named 47 = .ok (.getfield 75, 3) := by decide +kernel
theorem dX6_named_50 : decode cX6_named 50 = .ok (.ireturn, 1) := by decide +kernel
theorem dX6_named_51 : decode cX6_named 51 = .ok (.aload_n 2, 1) := by decide +kernel
theorem dX6_named_52 : decode cX6_named 52 = .ok (.getfield 80, 3) := by decide +kernel
theorem dX6_named_55 : decode cX6_named 55 = .ok (.ireturn, 1) := by decide +kernel
theorem dX6_named_56 : decode cX6_named 56 = .ok (.aload_n 2, 1) := by decide +kernel
theorem dX6_named_57 : decode cX6_named 57 = .ok (.getfield 83, 3) := by decide +kernel
theorem dX6_named_60 : decode cX6_named 60 = .ok (.ireturn, 1) := by decide +kernel
theorem dX6_named_61 : decode cX6_named 61 = .ok (.aload_n 1, 1) := by decide +kernel
theorem dX6_named_62 : decode cX6_named 62 = .ok (.aload_n 2, 1) := by decide +kernel
theorem dX6_named_63 : decode cX6_named 63 = .ok (.invokevirtual 86, 3) := by decide +kernel
theorem dX6_named_66 : decode cX6_named 66 = .ok (.ireturn, 1) := by decide +kernel
theorem dX6_joined_0 : decode cX6_joined 0 = .ok (.iload_n 0, 1) := by decide +kernel
theorem dX6_joined_1 : decode cX6_joined 1 = .ok (.tableswitch 109 (-14) (-9) #[105, 101, 87, 73, 56, 39], 39) := by decide +kernel
theorem dX6_joined_40 : decode cX6_joined 40 = .ok (.iload_n 1, 1) := by decide +kernel
theorem dX6_joined_41 : decode cX6_joined 41 = .ok (.ifCond .ne 7, 3) := by decide +kernel
theorem dX6_joined_44 : decode cX6_joined 44 = .ok (.iload_n 2, 1) := by decide +kernel
theorem dX6_joined_45 : decode cX6_joined 45 = .ok (.ifCond .eq 7, 3) := by decide +kernel
theorem dX6_joined_48 : decode cX6_joined 48 = .ok (.iconst 1, 1) := by decide +kernel
theorem dX6_joined_49 : decode cX6_joined 49 = .ok (.goto 4, 3) := by decide +kernel
theorem dX6_joined_52 : decode cX6_joined 52 = .ok (.iconst 0, 1) := by decide +kernel
theorem dX6_joined_53 : decode cX6_joined 53 = .ok (.invokestatic 56, 3) := by decide +kernel
theorem dX6_joined_56 : decode cX6_joined 56 = .ok (.ireturn, 1) := by decide +kernel
theorem dX6_joined_57 : decode cX6_joined 57 = .ok (.iload_n 1, 1) := by decide +kernel
theorem dX6_joined_58 : decode cX6_joined 58 = .ok (.ifCond .eq 11, 3) := by decide +kernel
theorem dX6_joined_61 : decode cX6_joined 61 = .ok (.iload_n 2, 1) := by decide +kernel
theorem dX6_joined_62 : decode cX6_joined 62 = .ok (.ifCond .eq 7, 3) := by decide +kernel
theorem dX6_joined_65 : decode cX6_joined 65 = .ok (.iconst 1, 1) := by decide +kernel
theorem dX6_joined_66 : decode cX6_joined 66 = .ok (.goto 4, 3) := by decide +kernel
theorem dX6_joined_69 : decode cX6_joined 69 = .ok (.iconst 0, 1) := by decide +kernel
theorem dX6_joined_70 : decode cX6_joined 70 = .ok (.invokestatic 56, 3) := by decide +kernel
theorem dX6_joined_73 : decode cX6_joined 73 = .ok (.ireturn, 1) := by decide +kernel
theorem dX6_joined_74 : decode cX6_joined 74 = .ok (.iload_n 1, 1) := by decide +kernel
theorem dX6_joined_75 : decode cX6_joined 75 = .ok (.iload_n 2, 1) := by decide +kernel
theorem dX6_joined_76 : decode cX6_joined 76 = .ok (.if_icmp .ge 7, 3) := by decide +kernel
theorem dX6_joined_79 : decode cX6_joined 79 = .ok (.iconst 1, 1) := by decide +kernel
theorem dX6_joined_80 : decode cX6_joined 80 = .ok (.goto 4, 3) := by decide +kernel
theorem dX6_joined_83 : decode cX6_joined 83 = .ok (.iconst 0, 1) := by decide +kernel
theorem dX6_joined_84 : decode cX6_joined 84 = .ok (.invokestatic 56, 3) := by decide +kernel
theorem dX6_joined_87 : decode cX6_joined 87 = .ok (.ireturn, 1) := by decide +kernel
theorem dX6_joined_88 : decode cX6_joined 88 = .ok (.iload_n 1, 1) := by decide +kernel
theorem dX6_joined_89 : decode cX6_joined 89 = .ok (.iload_n 2, 1) := by decide +kernel
theorem dX6_joined_90 : decode cX6_joined 90 = .ok (.if_icmp .ne 7, 3) := by decide +kernel
theorem dX6_joined_93 : decode cX6_joined 93 = .ok (.iconst 1, 1) := by decide +kernel
theorem dX6_joined_94 : decode cX6_joined 94 = .ok (.goto 4, 3) := by decide +kernel
theorem dX6_joined_97 : decode cX6_joined 97 = .ok (.iconst 0, 1) := by decide +kernel
theorem dX6_joined_98 : decode cX6_joined 98 = .ok (.invokestatic 56, 3) := by decide +kernel
theorem dX6_joined_101 : decode cX6_joined 101 = .ok (.ireturn, 1) := by decide +kernel
theorem dX6_joined_102 : decode cX6_joined 102 = .ok (.iload_n 1, 1) := by decide +kernel
theorem dX6_joined_103 : decode cX6_joined 103 = .ok (.iload_n 2, 1) := by decide +kernel
theorem dX6_joined_104 : decode cX6_joined 104 = .ok (.iadd, 1) := by decide +kernel
theorem dX6_joined_105 : decode cX6_joined 105 = .ok (.ireturn, 1) := by decide +kernel
theorem dX6_joined_106 : decode cX6_joined 106 = .ok (.iload_n 1, 1) := by decide +kernel
theorem dX6_joined_107 : decode cX6_joined 107 = .ok (.iload_n 2, 1) := by decide +kernel
theorem dX6_joined_108 : decode cX6_joined 108 = .ok (.isub, 1) := by decide +kernel
theorem dX6_joined_109 : decode cX6_joined 109 = .ok (.ireturn, 1) := by decide +kernel
theorem dX6_joined_110 : decode cX6_joined 110 = .ok (.iload_n 1, 1) := by decide +kernel
theorem dX6_joined_111 : decode cX6_joined 111 = .ok (.iload_n 2, 1) := by decide +kernel
theorem dX6_joined_112 : decode cX6_joined 112 = .ok (.imul, 1) := by decide +kernel
theorem dX6_joined_113 : decode cX6_joined 113 = .ok (.ireturn, 1) := by decide +kernel
theorem dX6_truth_0 : decode cX6_truth 0 = .ok (.iload_n 0, 1) := by decide +kernel
theorem dX6_truth_1 : decode cX6_truth 1 = .ok (.ifCond .eq 7, 3) := by decide +kernel
theorem dX6_truth_4 : decode cX6_truth 4 = .ok (.iconst 1, 1) := by decide +kernel
theorem dX6_truth_5 : decode cX6_truth 5 = .ok (.goto 4, 3) := by decide +kernel
theorem dX6_truth_8 : decode cX6_truth 8 = .ok (.iconst 0, 1) := by decide +kernel
theorem dX6_truth_9 : decode cX6_truth 9 = .ok (.ireturn, 1) := by decide +kernel
