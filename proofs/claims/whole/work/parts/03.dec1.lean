theorem dX2_init_27 : decode cX2_init 27 = .ok (.aload_n 0, 1) := by decide +kernel
theorem dX2_init_28 : decode cX2_init 28 = .ok (.new 19, 3) := by decide +kernel
theorem dX2_init_31 : decode cX2_init 31 = .ok (.dup, 1) := by decide +kernel
theorem dX2_init_32 : decode cX2_init 32 = .ok (.invokespecial 21, 3) := by decide +kernel
theorem dX2_init_35 : decode cX2_init 35 = .ok (.putfield 22, 3) := by decide +kernel
theorem dX2_init_38 : decode cX2_init 38 = .ok (.aload_n 0, 1) := by decide +kernel
theorem dX2_init_39 : decode cX2_init 39 = .ok (.iconst 5, 1) := by decide +kernel
theorem dX2_init_40 : decode cX2_init 40 = .ok (.putfield 26, 3) := by decide +kernel
theorem dX2_init_43 : decode cX2_init 43 = .ok (.aload_n 0, 1) := by decide +kernel
theorem dX2_init_44 : decode cX2_init 44 = .ok (.iconst 2, 1) := by decide +kernel
theorem dX2_init_45 : decode cX2_init 45 = .ok (.putfield 30, 3) := by decide +kernel
theorem dX2_init_48 : decode cX2_init 48 = .ok (.iconst 0, 1) := by decide +kernel
theorem dX2_init_49 : decode cX2_init 49 = .ok (.istore_n 1, 1) := by decide +kernel
theorem dX2_init_50 : decode cX2_init 50 = .ok (.iload_n 1, 1) := by decide +kernel
theorem dX2_init_51 : decode cX2_init 51 = .ok (.bipush 6, 2) := by decide +kernel
theorem dX2_init_53 : decode cX2_init 53 = .ok (.if_icmp .ge 27, 3) := by decide +kernel
theorem dX2_init_56 : decode cX2_init 56 = .ok (.aload_n 0, 1) := by decide +kernel
theorem dX2_init_57 : decode cX2_init 57 = .ok (.getfield 11, 3) := by decide +kernel
theorem dX2_init_60 : decode cX2_init 60 = .ok (.iconst 1, 1) := by decide +kernel
theorem dX2_init_61 : decode cX2_init 61 = .ok (.aaload, 1) := by decide +kernel
theorem dX2_init_62 : decode cX2_init 62 = .ok (.iload_n 1, 1) := by decide +kernel
theorem dX2_init_63 : decode cX2_init 63 = .ok (.iconst 1, 1) := by decide +kernel
theorem dX2_init_64 : decode cX2_init 64 = .ok (.iastore, 1) := by decide +kernel
theorem dX2_init_65 : decode cX2_init 65 = .ok (.aload_n 0, 1) := by decide +kernel
theorem dX2_init_66 : decode cX2_init 66 = .ok (.getfield 11, 3) := by decide +kernel
theorem dX2_init_69 : decode cX2_init 69 = .ok (.iconst 2, 1) := by decide +kernel
theorem dX2_init_70 : decode cX2_init 70 = .ok (.aaload, 1) := by decide +kernel
theorem dX2_init_71 : decode cX2_init 71 = .ok (.iload_n 1, 1) := by decide +kernel
theorem dX2_init_72 : decode cX2_init 72 = .ok (.iconst 1, 1) := by decide +kernel
theorem dX2_init_73 : decode cX2_init 73 = .ok (.iastore, 1) := by decide +kernel
theorem dX2_init_74 : decode cX2_init 74 = .ok (.iinc 1 1, 3) := by decide +kernel
theorem dX2_init_77 : decode cX2_init 77 = .ok (.goto (-27), 3) := by decide +kernel
theorem dX2_init_80 : decode cX2_init 80 = .ok (.return_, 1) := by decide +kernel
theorem dX2_take_0 : decode cX2_take 0 = .ok (.aload_n 1, 1) := by decide +kernel
theorem dX2_take_1 : decode cX2_take 1 = .ok (.getfield 11, 3) := by decide +kernel
theorem dX2_take_4 : decode cX2_take 4 = .ok (.aload_n 0, 1) := by decide +kernel
theorem dX2_take_5 : decode cX2_take 5 = .ok (.getfield 11, 3) := by decide +kernel
theorem dX2_take_8 : decode cX2_take 8 = .ok (.iconst 4, 1) := by decide +kernel
theorem dX2_take_9 : decode cX2_take 9 = .ok (.invokestatic 33, 3) := by decide +kernel
theorem dX2_take_12 : decode cX2_take 12 = .ok (.aload_n 1, 1) := by decide +kernel
theorem dX2_take_13 : decode cX2_take 13 = .ok (.getfield 16, 3) := by decide +kernel
theorem dX2_take_16 : decode cX2_take 16 = .ok (.aload_n 0, 1) := by decide +kernel
theorem dX2_take_17 : decode cX2_take 17 = .ok (.getfield 16, 3) := by decide +kernel
theorem dX2_take_20 : decode cX2_take 20 = .ok (.bipush 6, 2) := by decide +kernel
theorem dX2_take_22 : decode cX2_take 22 = .ok (.invokestatic 33, 3) := by decide +kernel
theorem dX2_take_25 : decode cX2_take 25 = .ok (.aload_n 0, 1) := by decide +kernel
theorem dX2_take_26 : decode cX2_take 26 = .ok (.getfield 22, 3) := by decide +kernel
theorem dX2_take_29 : decode cX2_take 29 = .ok (.aload_n 1, 1) := by decide +kernel
theorem dX2_take_30 : decode cX2_take 30 = .ok (.getfield 22, 3) := by decide +kernel
theorem dX2_take_33 : decode cX2_take 33 = .ok (.invokevirtual 37, 3) := by decide +kernel
theorem dX2_take_36 : decode cX2_take 36 = .ok (.aload_n 0, 1) := by decide +kernel
theorem dX2_take_37 : decode cX2_take 37 = .ok (.aload_n 1, 1) := by decide +kernel
theorem dX2_take_38 : decode cX2_take 38 = .ok (.getfield 26, 3) := by decide +kernel
theorem dX2_take_41 : decode cX2_take 41 = .ok (.putfield 26, 3) := by decide +kernel
theorem dX2_take_44 : decode cX2_take 44 = .ok (.aload_n 0, 1) := by decide +kernel
theorem dX2_take_45 : decode cX2_take 45 = .ok (.aload_n 1, 1) := by decide +kernel
theorem dX2_take_46 : decode cX2_take 46 = .ok (.getfield 30, 3) := by decide +kernel
theorem dX2_take_49 : decode cX2_take 49 = .ok (.putfield 30, 3) := by decide +kernel
theorem dX2_take_52 : decode cX2_take 52 = .ok (.return_, 1) := by decide +kernel
theorem dX3_init_0 : decode cX3_init 0 = .ok (.aload_n 0, 1) := by decide +kernel
theorem dX3_init_1 : decode cX3_init 1 = .ok (.invokespecial 3, 3) := by decide +kernel
theorem dX3_init_4 : decode cX3_init 4 = .ok (.aload_n 0, 1) := by decide +kernel
theorem dX3_init_5 : decode cX3_init 5 = .ok (.bipush 64, 2) := by decide +kernel
theorem dX3_init_7 : decode cX3_init 7 = .ok (.newarray .int, 2) := by decide +kernel
theorem dX3_init_9 : decode cX3_init 9 = .ok (.putfield 9, 3) := by decide +kernel
theorem dX3_init_12 : decode cX3_init 12 = .ok (.aload_n 0, 1) := by decide +kernel
theorem dX3_init_13 : decode cX3_init 13 = .ok (.bipush 64, 2) := by decide +kernel
theorem dX3_init_15 : decode cX3_init 15 = .ok (.newarray .int, 2) := by decide +kernel
theorem dX3_init_17 : decode cX3_init 17 = .ok (.putfield 15, 3) := by decide +kernel
theorem dX3_init_20 : decode cX3_init 20 = .ok (.return_, 1) := by decide +kernel
theorem dX3_fewestGifts_0 : decode cX3_fewestGifts 0 = .ok (.iconst 0, 1) := by decide +kernel
theorem dX3_fewestGifts_1 : decode cX3_fewestGifts 1 = .ok (.istore_n 2, 1) := by decide +kernel
theorem dX3_fewestGifts_2 : decode cX3_fewestGifts 2 = .ok (.iload_n 2, 1) := by decide +kernel
theorem dX3_fewestGifts_3 : decode cX3_fewestGifts 3 = .ok (.bipush 6, 2) := by decide +kernel
theorem dX3_fewestGifts_5 : decode cX3_fewestGifts 5 = .ok (.if_icmp .ge 85, 3) := by decide +kernel
theorem dX3_fewestGifts_8 : decode cX3_fewestGifts 8 = .ok (.aload_n 1, 1) := by decide +kernel
theorem dX3_fewestGifts_9 : decode cX3_fewestGifts 9 = .ok (.iload_n 2, 1) := by decide +kernel
theorem dX3_fewestGifts_10 : decode cX3_fewestGifts 10 = .ok (.invokestatic 18, 3) := by decide +kernel
theorem dX3_fewestGifts_13 : decode cX3_fewestGifts 13 = .ok (.istore_n 3, 1) := by decide +kernel
theorem dX3_fewestGifts_14 : decode cX3_fewestGifts 14 = .ok (.iconst 0, 1) := by decide +kernel
theorem dX3_fewestGifts_15 : decode cX3_fewestGifts 15 = .ok (.istore 4, 2) := by decide +kernel
theorem dX3_fewestGifts_17 : decode cX3_fewestGifts 17 = .ok (.iload 4, 2) := by decide +kernel
theorem dX3_fewestGifts_19 : decode cX3_fewestGifts 19 = .ok (.iconst 1, 1) := by decide +kernel
theorem dX3_fewestGifts_20 : decode cX3_fewestGifts 20 = .ok (.iload_n 2, 1) := by decide +kernel
theorem dX3_fewestGifts_21 : decode cX3_fewestGifts 21 = .ok (.ishl, 1) := by decide +kernel
theorem dX3_fewestGifts_22 : decode cX3_fewestGifts 22 = .ok (.if_icmp .ge 62, 3) := by decide +kernel
theorem dX3_fewestGifts_25 : decode cX3_fewestGifts 25 = .ok (.iload 4, 2) := by decide +kernel
theorem dX3_fewestGifts_27 : decode cX3_fewestGifts 27 = .ok (.iconst 1, 1) := by decide +kernel
theorem dX3_fewestGifts_28 : decode cX3_fewestGifts 28 = .ok (.iload_n 2, 1) := by decide +kernel
theorem dX3_fewestGifts_29 : decode cX3_fewestGifts 29 = .ok (.ishl, 1) := by decide +kernel
theorem dX3_fewestGifts_30 : decode cX3_fewestGifts 30 = .ok (.ior, 1) := by decide +kernel
theorem dX3_fewestGifts_31 : decode cX3_fewestGifts 31 = .ok (.istore 5, 2) := by decide +kernel
theorem dX3_fewestGifts_33 : decode cX3_fewestGifts 33 = .ok (.aload_n 0, 1) := by decide +kernel
theorem dX3_fewestGifts_34 : decode cX3_fewestGifts 34 = .ok (.getfield 9, 3) := by decide +kernel
theorem dX3_fewestGifts_37 : decode cX3_fewestGifts 37 = .ok (.iload 5, 2) := by decide +kernel
theorem dX3_fewestGifts_39 : decode cX3_fewestGifts 39 = .ok (.aload_n 0, 1) := by decide +kernel
theorem dX3_fewestGifts_40 : decode cX3_fewestGifts 40 = .ok (.getfield 9, 3) := by decide +kernel
theorem dX3_fewestGifts_43 : decode cX3_fewestGifts 43 = .ok (.iload 4, 2) := by decide +kernel
theorem dX3_fewestGifts_45 : decode cX3_fewestGifts 45 = .ok (.iaload, 1) := by decide +kernel
theorem dX3_fewestGifts_46 : decode cX3_fewestGifts 46 = .ok (.iload_n 3, 1) := by decide +kernel
theorem dX3_fewestGifts_47 : decode cX3_fewestGifts 47 = .ok (.iadd, 1) := by decide +kernel
theorem dX3_fewestGifts_48 : decode cX3_fewestGifts 48 = .ok (.iastore, 1) := by decide +kernel
theorem dX3_fewestGifts_49 : decode cX3_fewestGifts 49 = .ok (.aload_n 0, 1) := by decide +kernel
theorem dX3_fewestGifts_50 : decode cX3_fewestGifts 50 = .ok (.getfield 15, 3) := by decide +kernel
theorem dX3_fewestGifts_53 : decode cX3_fewestGifts 53 = .ok (.iload 5, 2) := by decide +kernel
theorem dX3_fewestGifts_55 : decode cX3_fewestGifts 55 = .ok (.aload_n 0, 1) := by decide +kernel
theorem dX3_fewestGifts_56 : decode cX3_fewestGifts 56 = .ok (.iload 5, 2) := by decide +kernel
theorem dX3_fewestGifts_58 : decode cX3_fewestGifts 58 = .ok (.invokevirtual 22, 3) := by decide +kernel
theorem dX3_fewestGifts_61 : decode cX3_fewestGifts 61 = .ok (.aload_n 0, 1) := by decide +kernel
theorem dX3_fewestGifts_62 : decode cX3_fewestGifts 62 = .ok (.getfield 9, 3) := by decide +kernel
theorem dX3_fewestGifts_65 : decode cX3_fewestGifts 65 = .ok (.iload 5, 2) := by decide +kernel
theorem dX3_fewestGifts_67 : decode cX3_fewestGifts 67 = .ok (.iaload, 1) := by decide +kernel
theorem dX3_fewestGifts_68 : decode cX3_fewestGifts 68 = .ok (.ifCond .ne 7, 3) := by decide +kernel
theorem dX3_fewestGifts_71 : decode cX3_fewestGifts 71 = .ok (.iconst 1, 1) := by decide +kernel
theorem dX3_fewestGifts_72 : decode cX3_fewestGifts 72 = .ok (.goto 4, 3) := by decide +kernel
theorem dX3_fewestGifts_75 : decode cX3_fewestGifts 75 = .ok (.iconst 0, 1) := by decide +kernel
theorem dX3_fewestGifts_76 : decode cX3_fewestGifts 76 = .ok (.iadd, 1) := by decide +kernel
theorem dX3_fewestGifts_77 : decode cX3_fewestGifts 77 = .ok (.iastore, 1) := by decide +kernel
theorem dX3_fewestGifts_78 : decode cX3_fewestGifts 78 = .ok (.iinc 4 1, 3) := by decide +kernel
theorem dX3_fewestGifts_81 : decode cX3_fewestGifts 81 = .ok (.goto (-64), 3) := by decide +kernel
theorem dX3_fewestGifts_84 : decode cX3_fewestGifts 84 = .ok (.iinc 2 1, 3) := by decide +kernel
theorem dX3_fewestGifts_87 : decode cX3_fewestGifts 87 = .ok (.goto (-85), 3) := by decide +kernel
theorem dX3_fewestGifts_90 : decode cX3_fewestGifts 90 = .ok (.bipush 6, 2) := by decide +kernel
theorem dX3_fewestGifts_92 : decode cX3_fewestGifts 92 = .ok (.aload_n 0, 1) := by decide +kernel
theorem dX3_fewestGifts_93 : decode cX3_fewestGifts 93 = .ok (.getfield 15, 3) := by decide +kernel
theorem dX3_fewestGifts_96 : decode cX3_fewestGifts 96 = .ok (.bipush 63, 2) := by decide +kernel
theorem dX3_fewestGifts_98 : decode cX3_fewestGifts 98 = .ok (.iaload, 1) := by decide +kernel
theorem dX3_fewestGifts_99 : decode cX3_fewestGifts 99 = .ok (.isub, 1) := by decide +kernel
theorem dX3_fewestGifts_100 : decode cX3_fewestGifts 100 = .ok (.ireturn, 1) := by decide +kernel
theorem dX3_mostGroups_0 : decode cX3_mostGroups 0 = .ok (.iconst 0, 1) := by decide +kernel
theorem dX3_mostGroups_1 : decode cX3_mostGroups 1 = .ok (.istore_n 2, 1) := by decide +kernel
theorem dX3_mostGroups_2 : decode cX3_mostGroups 2 = .ok (.iconst 0, 1) := by decide +kernel
theorem dX3_mostGroups_3 : decode cX3_mostGroups 3 = .ok (.istore_n 3, 1) := by decide +kernel
theorem dX3_mostGroups_4 : decode cX3_mostGroups 4 = .ok (.iload_n 3, 1) := by decide +kernel
theorem dX3_mostGroups_5 : decode cX3_mostGroups 5 = .ok (.bipush 6, 2) := by decide +kernel
theorem dX3_mostGroups_7 : decode cX3_mostGroups 7 = .ok (.if_icmp .ge 34, 3) := by decide +kernel
theorem dX3_mostGroups_10 : decode cX3_mostGroups 10 = .ok (.iload_n 1, 1) := by decide +kernel
theorem dX3_mostGroups_11 : decode cX3_mostGroups 11 = .ok (.iload_n 3, 1) := by decide +kernel
theorem dX3_mostGroups_12 : decode cX3_mostGroups 12 = .ok (.invokestatic 26, 3) := by decide +kernel
theorem dX3_mostGroups_15 : decode cX3_mostGroups 15 = .ok (.ifCond .eq 20, 3) := by decide +kernel
theorem dX3_mostGroups_18 : decode cX3_mostGroups 18 = .ok (.iload_n 2, 1) := by decide +kernel
theorem dX3_mostGroups_19 : decode cX3_mostGroups 19 = .ok (.aload_n 0, 1) := by decide +kernel
theorem dX3_mostGroups_20 : decode cX3_mostGroups 20 = .ok (.getfield 15, 3) := by decide +kernel
theorem dX3_mostGroups_23 : decode cX3_mostGroups 23 = .ok (.iload_n 1, 1) := by decide +kernel
theorem dX3_mostGroups_24 : decode cX3_mostGroups 24 = .ok (.iconst 1, 1) := by decide +kernel
theorem dX3_mostGroups_25 : decode cX3_mostGroups 25 = .ok (.iload_n 3, 1) := by decide +kernel
theorem dX3_mostGroups_26 : decode cX3_mostGroups 26 = .ok (.ishl, 1) := by decide +kernel
theorem dX3_mostGroups_27 : decode cX3_mostGroups 27 = .ok (.iconst (-1), 1) := by decide +kernel
theorem dX3_mostGroups_28 : decode cX3_mostGroups 28 = .ok (.ixor, 1) := by decide +kernel
theorem dX3_mostGroups_29 : decode cX3_mostGroups 29 = .ok (.iand, 1) := by decide +kernel
theorem dX3_mostGroups_30 : decode cX3_mostGroups 30 = .ok (.iaload, 1) := by decide +kernel
theorem dX3_mostGroups_31 : decode cX3_mostGroups 31 = .ok (.invokestatic 30, 3) := by decide +kernel
theorem dX3_mostGroups_34 : decode cX3_mostGroups 34 = .ok (.istore_n 2, 1) := by decide +kernel
theorem dX3_mostGroups_35 : decode cX3_mostGroups 35 = .ok (.iinc 3 1, 3) := by decide +kernel
theorem dX3_mostGroups_38 : decode cX3_mostGroups 38 = .ok (.goto (-34), 3) := by decide +kernel
theorem dX3_mostGroups_41 : decode cX3_mostGroups 41 = .ok (.iload_n 2, 1) := by decide +kernel
theorem dX3_mostGroups_42 : decode cX3_mostGroups 42 = .ok (.ireturn, 1) := by decide +kernel
theorem dX4_init_0 : decode cX4_init 0 = .ok (.aload_n 0, 1) := by decide +kernel
theorem dX4_init_1 : decode cX4_init 1 = .ok (.invokespecial 3, 3) := by decide +kernel
theorem dX4_init_4 : decode cX4_init 4 = .ok (.aload_n 0, 1) := by decide +kernel
theorem dX4_init_5 : decode cX4_init 5 = .ok (.bipush 8, 2) := by decide +kernel
theorem dX4_init_7 : decode cX4_init 7 = .ok (.newarray .int, 2) := by decide +kernel
theorem dX4_init_9 : decode cX4_init 9 = .ok (.putfield 9, 3) := by decide +kernel
theorem dX4_init_12 : decode cX4_init 12 = .ok (.aload_n 0, 1) := by decide +kernel
theorem dX4_init_13 : decode cX4_init 13 = .ok (.bipush 8, 2) := by decide +kernel
theorem dX4_init_15 : decode cX4_init 15 = .ok (.newarray .int, 2) := by decide +kernel
theorem dX4_init_17 : decode cX4_init 17 = .ok (.putfield 15, 3) := by decide +kernel
theorem dX4_init_20 : decode cX4_init 20 = .ok (.aload_n 0, 1) := by decide +kernel
theorem dX4_init_21 : decode cX4_init 21 = .ok (.bipush 8, 2) := by decide +kernel
theorem dX4_init_23 : decode cX4_init 23 = .ok (.newarray .int, 2) := by decide +kernel
theorem dX4_init_25 : decode cX4_init 25 = .ok (.putfield 18, 3) := by decide +kernel
theorem dX4_init_28 : decode cX4_init 28 = .ok (.aload_n 0, 1) := by decide +kernel
theorem dX4_init_29 : decode cX4_init 29 = .ok (.iconst 0, 1) := by decide +kernel
theorem dX4_init_30 : decode cX4_init 30 = .ok (.putfield 21, 3) := by decide +kernel
theorem dX4_init_33 : decode cX4_init 33 = .ok (.return_, 1) := by decide +kernel
theorem dX4_add_0 : decode cX4_add 0 = .ok (.aload_n 0, 1) := by decide +kernel
theorem dX4_add_1 : decode cX4_add 1 = .ok (.getfield 21, 3) := by decide +kernel
theorem dX4_add_4 : decode cX4_add 4 = .ok (.ifCond .lt 12, 3) := by decide +kernel
theorem dX4_add_7 : decode cX4_add 7 = .ok (.aload_n 0, 1) := by decide +kernel
theorem dX4_add_8 : decode cX4_add 8 = .ok (.getfield 21, 3) := by decide +kernel
theorem dX4_add_11 : decode cX4_add 11 = .ok (.bipush 8, 2) := by decide +kernel
theorem dX4_add_13 : decode cX4_add 13 = .ok (.if_icmp .lt 5, 3) := by decide +kernel
theorem dX4_add_16 : decode cX4_add 16 = .ok (.iconst 0, 1) := by decide +kernel
theorem dX4_add_17 : decode cX4_add 17 = .ok (.ireturn, 1) := by decide +kernel
theorem dX4_add_18 : decode cX4_add 18 = .ok (.aload_n 0, 1) := by decide +kernel
theorem dX4_add_19 : decode cX4_add 19 = .ok (.getfield 9, 3) := by decide +kernel
theorem dX4_add_22 : decode cX4_add 22 = .ok (.aload_n 0, 1) := by decide +kernel
theorem dX4_add_23 : decode cX4_add 23 = .ok (.getfield 21, 3) := by decide +kernel
theorem dX4_add_26 : decode cX4_add 26 = .ok (.iload_n 1, 1) := by decide +kernel
theorem dX4_add_27 : decode cX4_add 27 = .ok (.iastore, 1) := by decide +kernel
theorem dX4_add_28 : decode cX4_add 28 = .ok (.aload_n 0, 1) := by decide +kernel
theorem dX4_add_29 : decode cX4_add 29 = .ok (.getfield 15, 3) := by decide +kernel
theorem dX4_add_32 : decode cX4_add 32 = .ok (.aload_n 0, 1) := by decide +kernel
theorem dX4_add_33 : decode cX4_add 33 = .ok (.getfield 21, 3) := by decide +kernel
theorem dX4_add_36 : decode cX4_add 36 = .ok (.iload_n 2, 1) := by decide +kernel
theorem dX4_add_37 : decode cX4_add 37 = .ok (.iastore, 1) := by decide +kernel
theorem dX4_add_38 : decode cX4_add 38 = .ok (.aload_n 0, 1) := by decide +kernel
theorem dX4_add_39 : decode cX4_add 39 = .ok (.getfield 18, 3) := by decide +kernel
theorem dX4_add_42 : decode cX4_add 42 = .ok (.aload_n 0, 1) := by decide +kernel
theorem dX4_add_43 : decode cX4_add 43 = .ok (.getfield 21, 3) := by decide +kernel
theorem dX4_add_46 : decode cX4_add 46 = .ok (.iload_n 3, 1) := by decide +kernel
theorem dX4_add_47 : decode cX4_add 47 = .ok (.iastore, 1) := by decide +kernel
theorem dX4_add_48 : decode cX4_add 48 = .ok (.aload_n 0, 1) := by decide +kernel
theorem dX4_add_49 : decode cX4_add 49 = .ok (.dup, 1) := by decide +kernel
theorem dX4_add_50 : decode cX4_add 50 = .ok (.getfield 21, 3) := by decide +kernel
theorem dX4_add_53 : decode cX4_add 53 = .ok (.iconst 1, 1) := by decide +kernel
theorem dX4_add_54 : decode cX4_add 54 = .ok (.iadd, 1) := by decide +kernel
theorem dX4_add_55 : decode cX4_add 55 = .ok (.putfield 21, 3) := by decide +kernel
theorem dX4_add_58 : decode cX4_add 58 = .ok (.iconst 1, 1) := by decide +kernel
theorem dX4_add_59 : decode cX4_add 59 = .ok (.ireturn, 1) := by decide +kernel
theorem dX4_has_0 : decode cX4_has 0 = .ok (.iconst 0, 1) := by decide +kernel
theorem dX4_has_1 : decode cX4_has 1 = .ok (.istore_n 2, 1) := by decide +kernel
theorem dX4_has_2 : decode cX4_has 2 = .ok (.iload_n 2, 1) := by decide +kernel
theorem dX4_has_3 : decode cX4_has 3 = .ok (.aload_n 0, 1) := by decide +kernel
theorem dX4_has_4 : decode cX4_has 4 = .ok (.getfield 21, 3) := by decide +kernel
theorem dX4_has_7 : decode cX4_has 7 = .ok (.if_icmp .ge 21, 3) := by decide +kernel
theorem dX4_has_10 : decode cX4_has 10 = .ok (.aload_n 0, 1) := by decide +kernel
theorem dX4_has_11 : decode cX4_has 11 = .ok (.getfield 9, 3) := by decide +kernel
theorem dX4_has_14 : decode cX4_has 14 = .ok (.iload_n 2, 1) := by decide +kernel
theorem dX4_has_15 : decode cX4_has 15 = .ok (.iaload, 1) := by decide +kernel
theorem dX4_has_16 : decode cX4_has 16 = .ok (.iload_n 1, 1) := by decide +kernel
theorem dX4_has_17 : decode cX4_has 17 = .ok (.if_icmp .ne 5, 3) := by decide +kernel
theorem dX4_has_20 : decode cX4_has 20 = .ok (.iconst 1, 1) := by decide +kernel
theorem dX4_has_21 : decode cX4_has 21 = .ok (.ireturn, 1) := by decide +kernel
theorem dX4_has_22 : decode cX4_has 22 = .ok (.iinc 2 1, 3) := by decide +kernel
theorem dX4_has_25 : decode cX4_has 25 = .ok (.goto (-23), 3) := by decide +kernel
theorem dX4_has_28 : decode cX4_has 28 = .ok (.iconst 0, 1) := by decide +kernel
theorem dX4_has_29 : decode cX4_has 29 = .ok (.ireturn, 1) := by decide +kernel
theorem dX4_allMinutes_0 : decode cX4_allMinutes 0 = .ok (.iconst 0, 1) := by decide +kernel
theorem dX4_allMinutes_1 : decode cX4_allMinutes 1 = .ok (.istore_n 1, 1) := by decide +kernel
theorem dX4_allMinutes_2 : decode cX4_allMinutes 2 = .ok (.iconst 0, 1) := by decide +kernel
theorem dX4_allMinutes_3 : decode cX4_allMinutes 3 = .ok (.istore_n 2, 1) := by decide +kernel
theorem dX4_allMinutes_4 : decode cX4_allMinutes 4 = .ok (.iload_n 2, 1) := by decide +kernel
theorem dX4_allMinutes_5 : decode cX4_allMinutes 5 = .ok (.aload_n 0, 1) := by decide +kernel
theorem dX4_allMinutes_6 : decode cX4_allMinutes 6 = .ok (.getfield 21, 3) := by decide +kernel
theorem dX4_allMinutes_9 : decode cX4_allMinutes 9 = .ok (.if_icmp .ge 18, 3) := by decide +kernel
theorem dX4_allMinutes_12 : decode cX4_allMinutes 12 = .ok (.iload_n 1, 1) := by decide +kernel
theorem dX4_allMinutes_13 : decode cX4_allMinutes 13 = .ok (.aload_n 0, 1) := by decide +kernel
theorem dX4_allMinutes_14 : decode cX4_allMinutes 14 = .ok (.getfield 15, 3) := by decide +kernel
theorem dX4_allMinutes_17 : decode cX4_allMinutes 17 = .ok (.iload_n 2, 1) := by decide +kernel
theorem dX4_allMinutes_18 : decode cX4_allMinutes 18 = .ok (.iaload, 1) := by decide +kernel
theorem dX4_allMinutes_19 : decode cX4_allMinutes 19 = .ok (.iadd, 1) := by decide +kernel
theorem dX4_allMinutes_20 : decode cX4_allMinutes 20 = .ok (.istore_n 1, 1) := by decide +kernel
theorem dX4_allMinutes_21 : decode cX4_allMinutes 21 = .ok (.iinc 2 1, 3) := by decide +kernel
theorem dX4_allMinutes_24 : decode cX4_allMinutes 24 = .ok (.goto (-20), 3) := by decide +kernel
theorem dX4_allMinutes_27 : decode cX4_allMinutes 27 = .ok (.iload_n 1, 1) := by decide +kernel
theorem dX4_allMinutes_28 : decode cX4_allMinutes 28 = .ok (.ireturn, 1) := by decide +kernel
theorem dX4_isNext_0 : decode cX4_isNext 0 = .ok (.iload_n 2, 1) := by decide +kernel
theorem dX4_isNext_1 : decode cX4_isNext 1 = .ok (.iload_n 1, 1) := by decide +kernel
theorem dX4_isNext_2 : decode cX4_isNext 2 = .ok (.invokestatic 25, 3) := by decide +kernel
theorem dX4_isNext_5 : decode cX4_isNext 5 = .ok (.ifCond .ne 20, 3) := by decide +kernel
theorem dX4_isNext_8 : decode cX4_isNext 8 = .ok (.aload_n 0, 1) := by decide +kernel
theorem dX4_isNext_9 : decode cX4_isNext 9 = .ok (.getfield 18, 3) := by decide +kernel
theorem dX4_isNext_12 : decode cX4_isNext 12 = .ok (.iload_n 1, 1) := by decide +kernel
theorem dX4_isNext_13 : decode cX4_isNext 13 = .ok (.iaload, 1) := by decide +kernel
theorem dX4_isNext_14 : decode cX4_isNext 14 = .ok (.iload_n 2, 1) := by decide +kernel
theorem dX4_isNext_15 : decode cX4_isNext 15 = .ok (.iconst (-1), 1) := by decide +kernel
theorem dX4_isNext_16 : decode cX4_isNext 16 = .ok (.ixor, 1) := by decide +kernel
theorem dX4_isNext_17 : decode cX4_isNext 17 = .ok (.iand, 1) := by decide +kernel
theorem dX4_isNext_18 : decode cX4_isNext 18 = .ok (.ifCond .ne 7, 3) := by decide +kernel
theorem dX4_isNext_21 : decode cX4_isNext 21 = .ok (.iconst 1, 1) := by decide +kernel
theorem dX4_isNext_22 : decode cX4_isNext 22 = .ok (.goto 4, 3) := by decide +kernel
theorem dX4_isNext_25 : decode cX4_isNext 25 = .ok (.iconst 0, 1) := by decide +kernel
theorem dX4_isNext_26 : decode cX4_isNext 26 = .ok (.ireturn, 1) := by decide +kernel
theorem dX4_take_0 : decode cX4_take 0 = .ok (.aload_n 1, 1) := by decide +kernel
theorem dX4_take_1 : decode cX4_take 1 = .ok (.getfield 9, 3) := by decide +kernel
theorem dX4_take_4 : decode cX4_take 4 = .ok (.iconst 0, 1) := by decide +kernel
theorem dX4_take_5 : decode cX4_take 5 = .ok (.aload_n 0, 1) := by decide +kernel
theorem dX4_take_6 : decode cX4_take 6 = .ok (.getfield 9, 3) := by decide +kernel
theorem dX4_take_9 : decode cX4_take 9 = .ok (.iconst 0, 1) := by decide +kernel
theorem dX4_take_10 : decode cX4_take 10 = .ok (.bipush 8, 2) := by decide +kernel
theorem dX4_take_12 : decode cX4_take 12 = .ok (.invokestatic 29, 3) := by decide +kernel
theorem dX4_take_15 : decode cX4_take 15 = .ok (.aload_n 1, 1) := by decide +kernel
theorem dX4_take_16 : decode cX4_take 16 = .ok (.getfield 15, 3) := by decide +kernel
theorem dX4_take_19 : decode cX4_take 19 = .ok (.iconst 0, 1) := by decide +kernel
theorem dX4_take_20 : decode cX4_take 20 = .ok (.aload_n 0, 1) := by decide +kernel
theorem dX4_take_21 : decode cX4_take 21 = .ok (.getfield 15, 3) := by decide +kernel
theorem dX4_take_24 : decode cX4_take 24 = .ok (.iconst 0, 1) := by decide +kernel
theorem dX4_take_25 : decode cX4_take 25 = .ok (.bipush 8, 2) := by decide +kernel
theorem dX4_take_27 : decode cX4_take 27 = .ok (.invokestatic 29, 3) := by decide +kernel
theorem dX4_take_30 : decode cX4_take 30 = .ok (.aload_n 1, 1) := by decide +kernel
theorem dX4_take_31 : decode cX4_take 31 = .ok (.getfield 18, 3) := by decide +kernel
theorem dX4_take_34 : decode cX4_take 34 = .ok (.iconst 0, 1) := by decide +kernel
theorem dX4_take_35 : decode cX4_take 35 = .ok (.aload_n 0, 1) := by decide +kernel
theorem dX4_take_36 : decode cX4_take 36 = .ok (.getfield 18, 3) := by decide +kernel
theorem dX4_take_39 : decode cX4_take 39 = .ok (.iconst 0, 1) := by decide +kernel
theorem dX4_take_40 : decode cX4_take 40 = .ok (.bipush 8, 2) := by decide +kernel
theorem dX4_take_42 : decode cX4_take 42 = .ok (.invokestatic 29, 3) := by decide +kernel
theorem dX4_take_45 : decode cX4_take 45 = .ok (.aload_n 0, 1) := by decide +kernel
theorem dX4_take_46 : decode cX4_take 46 = .ok (.aload_n 1, 1) := by decide +kernel
theorem dX4_take_47 : decode cX4_take 47 = .ok (.getfield 21, 3) := by decide +kernel
theorem dX4_take_50 : decode cX4_take 50 = .ok (.putfield 21, 3) := by decide +kernel
theorem dX4_take_53 : decode cX4_take 53 = .ok (.return_, 1) := by decide +kernel
theorem dX5_init_0 : decode cX5_init 0 = .ok (.aload_n 0, 1) := by decide +kernel
theorem dX5_init_1 : decode cX5_init 1 = .ok (.invokespecial 3, 3) := by decide +kernel
theorem dX5_init_4 : decode cX5_init 4 = .ok (.aload_n 0, 1) := by decide +kernel
theorem dX5_init_5 : decode cX5_init 5 = .ok (.bipush 40, 2) := by decide +kernel
theorem dX5_init_7 : decode cX5_init 7 = .ok (.newarray .int, 2) := by decide +kernel
theorem dX5_init_9 : decode cX5_init 9 = .ok (.putfield 9, 3) := by decide +kernel
theorem dX5_init_12 : decode cX5_init 12 = .ok (.aload_n 0, 1) := by decide +kernel
theorem dX5_init_13 : decode cX5_init 13 = .ok (.iconst 0, 1) := by decide +kernel
theorem dX5_init_14 : decode cX5_init 14 = .ok (.putfield 15, 3) := by decide +kernel
theorem dX5_init_17 : decode cX5_init 17 = .ok (.return_, 1) := by decide +kernel
theorem dX5_add_0 : decode cX5_add 0 = .ok (.aload_n 0, 1) := by decide +kernel
theorem dX5_add_1 : decode cX5_add 1 = .ok (.getfield 15, 3) := by decide +kernel
theorem dX5_add_4 : decode cX5_add 4 = .ok (.ifCond .lt 12, 3) := by decide +kernel
theorem dX5_add_7 : decode cX5_add 7 = .ok (.aload_n 0, 1) := by decide +kernel
theorem dX5_add_8 : decode cX5_add 8 = .ok (.getfield 15, 3) := by decide +kernel
theorem dX5_add_11 : decode cX5_add 11 = .ok (.bipush 40, 2) := by decide +kernel
theorem dX5_add_13 : decode cX5_add 13 = .ok (.if_icmp .lt 5, 3) := by decide +kernel
theorem dX5_add_16 : decode cX5_add 16 = .ok (.iconst 0, 1) := by decide +kernel
theorem dX5_add_17 : decode cX5_add 17 = .ok (.ireturn, 1) := by decide +kernel
theorem dX5_add_18 : decode cX5_add 18 = .ok (.aload_n 0, 1) := by decide +kernel
theorem dX5_add_19 : decode cX5_add 19 = .ok (.getfield 9, 3) := by decide +kernel
theorem dX5_add_22 : decode cX5_add 22 = .ok (.aload_n 0, 1) := by decide +kernel
theorem dX5_add_23 : decode cX5_add 23 = .ok (.getfield 15, 3) := by decide +kernel
theorem dX5_add_26 : decode cX5_add 26 = .ok (.iload_n 1, 1) := by decide +kernel
theorem dX5_add_27 : decode cX5_add 27 = .ok (.iastore, 1) := by decide +kernel
theorem dX5_add_28 : decode cX5_add 28 = .ok (.aload_n 0, 1) := by decide +kernel
theorem dX5_add_29 : decode cX5_add 29 = .ok (.dup, 1) := by decide +kernel
theorem dX5_add_30 : decode cX5_add 30 = .ok (.getfield 15, 3) := by decide +kernel
theorem dX5_add_33 : decode cX5_add 33 = .ok (.iconst 1, 1) := by decide +kernel
theorem dX5_add_34 : decode cX5_add 34 = .ok (.iadd, 1) := by decide +kernel
theorem dX5_add_35 : decode cX5_add 35 = .ok (.putfield 15, 3) := by decide +kernel
theorem dX5_add_38 : decode cX5_add 38 = .ok (.iconst 1, 1) := by decide +kernel
theorem dX5_add_39 : decode cX5_add 39 = .ok (.ireturn, 1) := by decide +kernel
theorem dX5_sign_0 : decode cX5_sign 0 = .ok (.iload_n 1, 1) := by decide +kernel
theorem dX5_sign_1 : decode cX5_sign 1 = .ok (.ifCond .lt 26, 3) := by decide +kernel
theorem dX5_sign_4 : decode cX5_sign 4 = .ok (.iload_n 1, 1) := by decide +kernel
theorem dX5_sign_5 : decode cX5_sign 5 = .ok (.aload_n 0, 1) := by decide +kernel
theorem dX5_sign_6 : decode cX5_sign 6 = .ok (.getfield 15, 3) := by decide +kernel
theorem dX5_sign_9 : decode cX5_sign 9 = .ok (.if_icmp .ge 18, 3) := by decide +kernel
theorem dX5_sign_12 : decode cX5_sign 12 = .ok (.iload_n 1, 1) := by decide +kernel
theorem dX5_sign_13 : decode cX5_sign 13 = .ok (.bipush 40, 2) := by decide +kernel
theorem dX5_sign_15 : decode cX5_sign 15 = .ok (.if_icmp .ge 12, 3) := by decide +kernel
theorem dX5_sign_18 : decode cX5_sign 18 = .ok (.aload_n 0, 1) := by decide +kernel
theorem dX5_sign_19 : decode cX5_sign 19 = .ok (.getfield 9, 3) := by decide +kernel
theorem dX5_sign_22 : decode cX5_sign 22 = .ok (.iload_n 1, 1) := by decide +kernel
theorem dX5_sign_23 : decode cX5_sign 23 = .ok (.iaload, 1) := by decide +kernel
theorem dX5_sign_24 : decode cX5_sign 24 = .ok (.goto 4, 3) := by decide +kernel
theorem dX5_sign_27 : decode cX5_sign 27 = .ok (.iconst 0, 1) := by decide +kernel
theorem dX5_sign_28 : decode cX5_sign 28 = .ok (.ireturn, 1) := by decide +kernel
theorem dX5_sittingFault_0 : decode cX5_sittingFault 0 = .ok (.iconst 0, 1) := by decide +kernel
theorem dX5_sittingFault_1 : decode cX5_sittingFault 1 = .ok (.istore_n 1, 1) := by decide +kernel
theorem dX5_sittingFault_2 : decode cX5_sittingFault 2 = .ok (.iconst 0, 1) := by decide +kernel
theorem dX5_sittingFault_3 : decode cX5_sittingFault 3 = .ok (.istore_n 2, 1) := by decide +kernel
theorem dX5_sittingFault_4 : decode cX5_sittingFault 4 = .ok (.iload_n 2, 1) := by decide +kernel
theorem dX5_sittingFault_5 : decode cX5_sittingFault 5 = .ok (.aload_n 0, 1) := by decide +kernel
theorem dX5_sittingFault_6 : decode cX5_sittingFault 6 = .ok (.getfield 15, 3) := by decide +kernel
theorem dX5_sittingFault_9 : decode cX5_sittingFault 9 = .ok (.if_icmp .ge 33, 3) := by decide +kernel
theorem dX5_sittingFault_12 : decode cX5_sittingFault 12 = .ok (.iload_n 1, 1) := by decide +kernel
theorem dX5_sittingFault_13 : decode cX5_sittingFault 13 = .ok (.aload_n 0, 1) := by decide +kernel
theorem dX5_sittingFault_14 : decode cX5_sittingFault 14 = .ok (.iload_n 2, 1) := by decide +kernel
theorem dX5_sittingFault_15 : decode cX5_sittingFault 15 = .ok (.invokevirtual 19, 3) := by decide +kernel
theorem dX5_sittingFault_18 : decode cX5_sittingFault 18 = .ok (.aload_n 0, 1) := by decide +kernel
theorem dX5_sittingFault_19 : decode cX5_sittingFault 19 = .ok (.iload_n 2, 1) := by decide +kernel
theorem dX5_sittingFault_20 : decode cX5_sittingFault 20 = .ok (.iconst 1, 1) := by decide +kernel
theorem dX5_sittingFault_21 : decode cX5_sittingFault 21 = .ok (.isub, 1) := by decide +kernel
theorem dX5_sittingFault_22 : decode cX5_sittingFault 22 = .ok (.invokevirtual 19, 3) := by decide +kernel
theorem dX5_sittingFault_25 : decode cX5_sittingFault 25 = .ok (.invokestatic 23, 3) := by decide +kernel
theorem dX5_sittingFault_28 : decode cX5_sittingFault 28 = .ok (.istore_n 1, 1) := by decide +kernel
theorem dX5_sittingFault_29 : decode cX5_sittingFault 29 = .ok (.iload_n 1, 1) := by decide +kernel
theorem dX5_sittingFault_30 : decode cX5_sittingFault 30 = .ok (.iconst (-1), 1) := by decide +kernel
theorem dX5_sittingFault_31 : decode cX5_sittingFault 31 = .ok (.if_icmp .ne 5, 3) := by decide +kernel
theorem dX5_sittingFault_34 : decode cX5_sittingFault 34 = .ok (.iload_n 2, 1) := by decide +kernel
theorem dX5_sittingFault_35 : decode cX5_sittingFault 35 = .ok (.ireturn, 1) := by decide +kernel
theorem dX5_sittingFault_36 : decode cX5_sittingFault 36 = .ok (.iinc 2 1, 3) := by decide +kernel
theorem dX5_sittingFault_39 : decode cX5_sittingFault 39 = .ok (.goto (-35), 3) := by decide +kernel
theorem dX5_sittingFault_42 : decode cX5_sittingFault 42 = .ok (.iload_n 1, 1) := by decide +kernel
theorem dX5_sittingFault_43 : decode cX5_sittingFault 43 = .ok (.ifCond .ne 8, 3) := by decide +kernel
theorem dX5_sittingFault_46 : decode cX5_sittingFault 46 = .ok (.bipush (-6), 2) := by decide +kernel
theorem dX5_sittingFault_48 : decode cX5_sittingFault 48 = .ok (.goto 7, 3) := by decide +kernel
theorem dX5_sittingFault_51 : decode cX5_sittingFault 51 = .ok (.aload_n 0, 1) := by decide +kernel
theorem dX5_sittingFault_52 : decode cX5_sittingFault 52 = .ok (.getfield 15, 3) := by decide +kernel
theorem dX5_sittingFault_55 : decode cX5_sittingFault 55 = .ok (.ireturn, 1) := by decide +kernel
theorem dX5_bookFault_0 : decode cX5_bookFault 0 = .ok (.iconst 0, 1) := by decide +kernel
theorem dX5_bookFault_1 : decode cX5_bookFault 1 = .ok (.istore_n 1, 1) := by decide +kernel
theorem dX5_bookFault_2 : decode cX5_bookFault 2 = .ok (.iconst 0, 1) := by decide +kernel
theorem dX5_bookFault_3 : decode cX5_bookFault 3 = .ok (.istore_n 2, 1) := by decide +kernel
theorem dX5_bookFault_4 : decode cX5_bookFault 4 = .ok (.iload_n 2, 1) := by decide +kernel
theorem dX5_bookFault_5 : decode cX5_bookFault 5 = .ok (.aload_n 0, 1) := by decide +kernel
theorem dX5_bookFault_6 : decode cX5_bookFault 6 = .ok (.getfield 15, 3) := by decide +kernel
theorem dX5_bookFault_9 : decode cX5_bookFault 9 = .ok (.if_icmp .ge 73, 3) := by decide +kernel
theorem dX5_bookFault_12 : decode cX5_bookFault 12 = .ok (.aload_n 0, 1) := by decide +kernel
theorem dX5_bookFault_13 : decode cX5_bookFault 13 = .ok (.iload_n 2, 1) := by decide +kernel
theorem dX5_bookFault_14 : decode cX5_bookFault 14 = .ok (.invokevirtual 19, 3) := by decide +kernel
theorem dX5_bookFault_17 : decode cX5_bookFault 17 = .ok (.istore_n 3, 1) := by decide +kernel
theorem dX5_bookFault_18 : decode cX5_bookFault 18 = .ok (.iload_n 1, 1) := by decide +kernel
theorem dX5_bookFault_19 : decode cX5_bookFault 19 = .ok (.iload_n 3, 1) := by decide +kernel
theorem dX5_bookFault_20 : decode cX5_bookFault 20 = .ok (.bipush 42, 2) := by decide +kernel
theorem dX5_bookFault_22 : decode cX5_bookFault 22 = .ok (.if_icmp .ne 7, 3) := by decide +kernel
theorem dX5_bookFault_25 : decode cX5_bookFault 25 = .ok (.iconst 1, 1) := by decide +kernel
theorem dX5_bookFault_26 : decode cX5_bookFault 26 = .ok (.goto 4, 3) := by decide +kernel
theorem dX5_bookFault_29 : decode cX5_bookFault 29 = .ok (.iconst 0, 1) := by decide +kernel
theorem dX5_bookFault_30 : decode cX5_bookFault 30 = .ok (.iadd, 1) := by decide +kernel
theorem dX5_bookFault_31 : decode cX5_bookFault 31 = .ok (.istore_n 1, 1) := by decide +kernel
theorem dX5_bookFault_32 : decode cX5_bookFault 32 = .ok (.iload_n 3, 1) := by decide +kernel
theorem dX5_bookFault_33 : decode cX5_bookFault 33 = .ok (.invokestatic 27, 3) := by decide +kernel
theorem dX5_bookFault_36 : decode cX5_bookFault 36 = .ok (.ifCond .ne 15, 3) := by decide +kernel
theorem dX5_bookFault_39 : decode cX5_bookFault 39 = .ok (.iload_n 3, 1) := by decide +kernel
theorem dX5_bookFault_40 : decode cX5_bookFault 40 = .ok (.bipush 46, 2) := by decide +kernel
theorem dX5_bookFault_42 : decode cX5_bookFault 42 = .ok (.if_icmp .eq 9, 3) := by decide +kernel
theorem dX5_bookFault_45 : decode cX5_bookFault 45 = .ok (.iload_n 3, 1) := by decide +kernel
theorem dX5_bookFault_46 : decode cX5_bookFault 46 = .ok (.bipush 42, 2) := by decide +kernel
theorem dX5_bookFault_48 : decode cX5_bookFault 48 = .ok (.if_icmp .ne 7, 3) := by decide +kernel
theorem dX5_bookFault_51 : decode cX5_bookFault 51 = .ok (.iconst 1, 1) := by decide +kernel
theorem dX5_bookFault_52 : decode cX5_bookFault 52 = .ok (.goto 4, 3) := by decide +kernel
theorem dX5_bookFault_55 : decode cX5_bookFault 55 = .ok (.iconst 0, 1) := by decide +kernel
theorem dX5_bookFault_56 : decode cX5_bookFault 56 = .ok (.istore 4, 2) := by decide +kernel
theorem dX5_bookFault_58 : decode cX5_bookFault 58 = .ok (.iload 4, 2) := by decide +kernel
theorem dX5_bookFault_60 : decode cX5_bookFault 60 = .ok (.ifCond .eq 14, 3) := by decide +kernel
theorem dX5_bookFault_63 : decode cX5_bookFault 63 = .ok (.iload_n 2, 1) := by decide +kernel
theorem dX5_bookFault_64 : decode cX5_bookFault 64 = .ok (.bipush 12, 2) := by decide +kernel
theorem dX5_bookFault_66 : decode cX5_bookFault 66 = .ok (.if_icmp .ge 8, 3) := by decide +kernel
theorem dX5_bookFault_69 : decode cX5_bookFault 69 = .ok (.iload_n 1, 1) := by decide +kernel
theorem dX5_bookFault_70 : decode cX5_bookFault 70 = .ok (.iconst 5, 1) := by decide +kernel
theorem dX5_bookFault_71 : decode cX5_bookFault 71 = .ok (.if_icmp .le 5, 3) := by decide +kernel
theorem dX5_bookFault_74 : decode cX5_bookFault 74 = .ok (.iload_n 2, 1) := by decide +kernel
theorem dX5_bookFault_75 : decode cX5_bookFault 75 = .ok (.ireturn, 1) := by decide +kernel
theorem dX5_bookFault_76 : decode cX5_bookFault 76 = .ok (.iinc 2 1, 3) := by decide +kernel
theorem dX5_bookFault_79 : decode cX5_bookFault 79 = .ok (.goto (-75), 3) := by decide +kernel
theorem dX5_bookFault_82 : decode cX5_bookFault 82 = .ok (.aload_n 0, 1) := by decide +kernel
theorem dX5_bookFault_83 : decode cX5_bookFault 83 = .ok (.getfield 15, 3) := by decide +kernel
theorem dX5_bookFault_86 : decode cX5_bookFault 86 = .ok (.ifCond .ne 7, 3) := by decide +kernel
theorem dX5_bookFault_89 : decode cX5_bookFault 89 = .ok (.iconst 0, 1) := by decide +kernel
theorem dX5_bookFault_90 : decode cX5_bookFault 90 = .ok (.goto 5, 3) := by decide +kernel
theorem dX5_bookFault_93 : decode cX5_bookFault 93 = .ok (.bipush (-6), 2) := by decide +kernel
theorem dX5_bookFault_95 : decode cX5_bookFault 95 = .ok (.ireturn, 1) := by decide +kernel
theorem dX5_wantedBehind_0 : decode cX5_wantedBehind 0 = .ok (.iload_n 0, 1) := by decide +kernel
theorem dX5_wantedBehind_1 : decode cX5_wantedBehind 1 = .ok (.tableswitch 80 0 3 #[31, 36, 54, 67], 31) := by decide +kernel
theorem dX5_wantedBehind_32 : decode cX5_wantedBehind 32 = .ok (.iload_n 1, 1) := by decide +kernel
theorem dX5_wantedBehind_33 : decode cX5_wantedBehind 33 = .ok (.invokestatic 31, 3) := by decide +kernel
theorem dX5_wantedBehind_36 : decode cX5_wantedBehind 36 = .ok (.ireturn, 1) := by decide +kernel
theorem dX5_wantedBehind_37 : decode cX5_wantedBehind 37 = .ok (.iload_n 1, 1) := by decide +kernel
theorem dX5_wantedBehind_38 : decode cX5_wantedBehind 38 = .ok (.bipush 49, 2) := by decide +kernel
theorem dX5_wantedBehind_40 : decode cX5_wantedBehind 40 = .ok (.if_icmp .lt 13, 3) := by decide +kernel
theorem dX5_wantedBehind_43 : decode cX5_wantedBehind 43 = .ok (.iload_n 1, 1) := by decide +kernel
theorem dX5_wantedBehind_44 : decode cX5_wantedBehind 44 = .ok (.bipush 57, 2) := by decide +kernel
theorem dX5_wantedBehind_46 : decode cX5_wantedBehind 46 = .ok (.if_icmp .gt 7, 3) := by decide +kernel
theorem dX5_wantedBehind_49 : decode cX5_wantedBehind 49 = .ok (.iconst 0, 1) := by decide +kernel
theorem dX5_wantedBehind_50 : decode cX5_wantedBehind 50 = .ok (.goto 4, 3) := by decide +kernel
theorem dX5_wantedBehind_53 : decode cX5_wantedBehind 53 = .ok (.iconst (-1), 1) := by decide +kernel
theorem dX5_wantedBehind_54 : decode cX5_wantedBehind 54 = .ok (.ireturn, 1) := by decide +kernel
theorem dX5_wantedBehind_55 : decode cX5_wantedBehind 55 = .ok (.iload_n 1, 1) := by decide +kernel
theorem dX5_wantedBehind_56 : decode cX5_wantedBehind 56 = .ok (.invokestatic 27, 3) := by decide +kernel
theorem dX5_wantedBehind_59 : decode cX5_wantedBehind 59 = .ok (.ifCond .eq 7, 3) := by decide +kernel
theorem dX5_wantedBehind_62 : decode cX5_wantedBehind 62 = .ok (.iconst 0, 1) := by decide +kernel
theorem dX5_wantedBehind_63 : decode cX5_wantedBehind 63 = .ok (.goto 4, 3) := by decide +kernel
theorem dX5_wantedBehind_66 : decode cX5_wantedBehind 66 = .ok (.iconst (-1), 1) := by decide +kernel
theorem dX5_wantedBehind_67 : decode cX5_wantedBehind 67 = .ok (.ireturn, 1) := by decide +kernel
theorem dX5_wantedBehind_68 : decode cX5_wantedBehind 68 = .ok (.iload_n 1, 1) := by decide +kernel
theorem dX5_wantedBehind_69 : decode cX5_wantedBehind 69 = .ok (.invokestatic 27, 3) := by decide +kernel
theorem dX5_wantedBehind_72 : decode cX5_wantedBehind 72 = .ok (.ifCond .eq 7, 3) := by decide +kernel
theorem dX5_wantedBehind_75 : decode cX5_wantedBehind 75 = .ok (.iconst 4, 1) := by decide +kernel
theorem dX5_wantedBehind_76 : decode cX5_wantedBehind 76 = .ok (.goto 4, 3) := by decide +kernel
theorem dX5_wantedBehind_79 : decode cX5_wantedBehind 79 = .ok (.iconst (-1), 1) := by decide +kernel
theorem dX5_wantedBehind_80 : decode cX5_wantedBehind 80 = .ok (.ireturn, 1) := by decide +kernel
theorem dX5_wantedBehind_81 : decode cX5_wantedBehind 81 = .ok (.iload_n 1, 1) := by decide +kernel
theorem dX5_wantedBehind_82 : decode cX5_wantedBehind 82 = .ok (.invokestatic 27, 3) := by decide +kernel
theorem dX5_wantedBehind_85 : decode cX5_wantedBehind 85 = .ok (.ifCond .eq 12, 3) := by decide +kernel
theorem dX5_wantedBehind_88 : decode cX5_wantedBehind 88 = .ok (.iload_n 1, 1) := by decide +kernel
theorem dX5_wantedBehind_89 : decode cX5_wantedBehind 89 = .ok (.iload_n 2, 1) := by decide +kernel
theorem dX5_wantedBehind_90 : decode cX5_wantedBehind 90 = .ok (.if_icmp .eq 7, 3) := by decide +kernel
theorem dX5_wantedBehind_93 : decode cX5_wantedBehind 93 = .ok (.iconst 0, 1) := by decide +kernel
theorem dX5_wantedBehind_94 : decode cX5_wantedBehind 94 = .ok (.goto 4, 3) := by decide +kernel
theorem dX5_wantedBehind_97 : decode cX5_wantedBehind 97 = .ok (.iconst (-1), 1) := by decide +kernel
theorem dX5_wantedBehind_98 : decode cX5_wantedBehind 98 = .ok (.ireturn, 1) := by decide +kernel
theorem dX5_wantedBehindHead_0 : decode cX5_wantedBehindHead 0 = .ok (.iload_n 0, 1) := by decide +kernel
theorem dX5_wantedBehindHead_1 : decode cX5_wantedBehindHead 1 = .ok (.lookupswitch 73 #[(46, 71), (63, 69), (105, 67), (107, 67), (120, 67), (121, 67), (122, 67)], 67) := by decide +kernel
theorem dX5_wantedBehindHead_68 : decode cX5_wantedBehindHead 68 = .ok (.iconst 2, 1) := by decide +kernel
theorem dX5_wantedBehindHead_69 : decode cX5_wantedBehindHead 69 = .ok (.ireturn, 1) := by decide +kernel
theorem dX5_wantedBehindHead_70 : decode cX5_wantedBehindHead 70 = .ok (.iconst 3, 1) := by decide +kernel
theorem dX5_wantedBehindHead_71 : decode cX5_wantedBehindHead 71 = .ok (.ireturn, 1) := by decide +kernel
theorem dX5_wantedBehindHead_72 : decode cX5_wantedBehindHead 72 = .ok (.iconst 1, 1) := by decide +kernel
theorem dX5_wantedBehindHead_73 : decode cX5_wantedBehindHead 73 = .ok (.ireturn, 1) := by decide +kernel
theorem dX5_wantedBehindHead_74 : decode cX5_wantedBehindHead 74 = .ok (.iload_n 0, 1) := by decide +kernel
theorem dX5_wantedBehindHead_75 : decode cX5_wantedBehindHead 75 = .ok (.invokestatic 27, 3) := by decide +kernel
theorem dX5_wantedBehindHead_78 : decode cX5_wantedBehindHead 78 = .ok (.ifCond .eq 7, 3) := by decide +kernel
theorem dX5_wantedBehindHead_81 : decode cX5_wantedBehindHead 81 = .ok (.iconst 1, 1) := by decide +kernel
theorem dX5_wantedBehindHead_82 : decode cX5_wantedBehindHead 82 = .ok (.goto 4, 3) := by decide +kernel
theorem dX5_wantedBehindHead_85 : decode cX5_wantedBehindHead 85 = .ok (.iconst (-1), 1) := by decide +kernel
theorem dX5_wantedBehindHead_86 : decode cX5_wantedBehindHead 86 = .ok (.ireturn, 1) := by decide +kernel
theorem dX6_init_0 : decode cX6_init 0 = .ok (.aload_n 0, 1) := by decide +kernel
theorem dX6_init_1 : decode cX6_init 1 = .ok (.invokespecial 3, 3) := by decide +kernel
theorem dX6_init_4 : decode cX6_init 4 = .ok (.aload_n 0, 1) := by decide +kernel
theorem dX6_init_5 : decode cX6_init 5 = .ok (.iconst 4, 1) := by decide +kernel
theorem dX6_init_6 : decode cX6_init 6 = .ok (.bipush 6, 2) := by decide +kernel
theorem dX6_init_8 : decode cX6_init 8 = .ok (.multianewarray 9 2, 4) := by decide +kernel
theorem dX6_init_12 : decode cX6_init 12 = .ok (.putfield 11, 3) := by decide +kernel
theorem dX6_init_15 : decode cX6_init 15 = .ok (.aload_n 0, 1) := by decide +kernel
theorem dX6_init_16 : decode cX6_init 16 = .ok (.bipush 6, 2) := by decide +kernel
theorem dX6_init_18 : decode cX6_init 18 = .ok (.newarray .int, 2) := by decide +kernel
theorem dX6_init_20 : decode cX6_init 20 = .ok (.putfield 16, 3) := by decide +kernel
theorem dX6_init_23 : decode cX6_init 23 = .ok (.aload_n 0, 1) := by decide +kernel
theorem dX6_init_24 : decode cX6_init 24 = .ok (.iconst 0, 1) := by decide +kernel
theorem dX6_init_25 : decode cX6_init 25 = .ok (.putfield 20, 3) := by decide +kernel
theorem dX6_init_28 : decode cX6_init 28 = .ok (.aload_n 0, 1) := by decide +kernel
theorem dX6_init_29 : decode cX6_init 29 = .ok (.iconst 0, 1) := by decide +kernel
theorem dX6_init_30 : decode cX6_init 30 = .ok (.putfield 24, 3) := by decide +kernel
theorem dX6_init_33 : decode cX6_init 33 = .ok (.aload_n 0, 1) := by decide +kernel
theorem dX6_init_34 : decode cX6_init 34 = .ok (.bipush (-6), 2) := by decide +kernel
theorem dX6_init_36 : decode cX6_init 36 = .ok (.putfield 27, 3) := by decide +kernel
theorem dX6_init_39 : decode cX6_init 39 = .ok (.return_, 1) := by decide +kernel
theorem dX6_run_0 : decode cX6_run 0 = .ok (.aload_n 0, 1) := by decide +kernel
theorem dX6_run_1 : decode cX6_run 1 = .ok (.aload_n 1, 1) := by decide +kernel
theorem dX6_run_2 : decode cX6_run 2 = .ok (.invokevirtual 30, 3) := by decide +kernel
theorem dX6_run_5 : decode cX6_run 5 = .ok (.iconst 0, 1) := by decide +kernel
theorem dX6_run_6 : decode cX6_run 6 = .ok (.istore_n 3, 1) := by decide +kernel
theorem dX6_run_7 : decode cX6_run 7 = .ok (.iload_n 3, 1) := by decide +kernel
theorem dX6_run_8 : decode cX6_run 8 = .ok (.aload_n 2, 1) := by decide +kernel
theorem dX6_run_9 : decode cX6_run 9 = .ok (.getfield 34, 3) := by decide +kernel
theorem dX6_run_12 : decode cX6_run 12 = .ok (.if_icmp .ge 134, 3) := by decide +kernel
theorem dX6_run_15 : decode cX6_run 15 = .ok (.aload_n 2, 1) := by decide +kernel
theorem dX6_run_16 : decode cX6_run 16 = .ok (.iload_n 3, 1) := by decide +kernel
theorem dX6_run_17 : decode cX6_run 17 = .ok (.invokevirtual 39, 3) := by decide +kernel
theorem dX6_run_20 : decode cX6_run 20 = .ok (.istore 4, 2) := by decide +kernel
theorem dX6_run_22 : decode cX6_run 22 = .ok (.aload_n 2, 1) := by decide +kernel
theorem dX6_run_23 : decode cX6_run 23 = .ok (.iload_n 3, 1) := by decide +kernel
theorem dX6_run_24 : decode cX6_run 24 = .ok (.iconst 1, 1) := by decide +kernel
theorem dX6_run_25 : decode cX6_run 25 = .ok (.iadd, 1) := by decide +kernel
theorem dX6_run_26 : decode cX6_run 26 = .ok (.invokevirtual 39, 3) := by decide +kernel
theorem dX6_run_29 : decode cX6_run 29 = .ok (.istore 5, 2) := by decide +kernel
theorem dX6_run_31 : decode cX6_run 31 = .ok (.iload 4, 2) := by decide +kernel
theorem dX6_run_33 : decode cX6_run 33 = .ok (.bipush 46, 2) := by decide +kernel
theorem dX6_run_35 : decode cX6_run 35 = .ok (.if_icmp .ne 17, 3) := by decide +kernel
theorem dX6_run_38 : decode cX6_run 38 = .ok (.aload_n 0, 1) := by decide +kernel
theorem dX6_run_39 : decode cX6_run 39 = .ok (.bipush 6, 2) := by decide +kernel
theorem dX6_run_41 : decode cX6_run 41 = .ok (.iload 5, 2) := by decide +kernel
theorem dX6_run_43 : decode cX6_run 43 = .ok (.bipush 48, 2) := by decide +kernel
theorem dX6_run_45 : decode cX6_run 45 = .ok (.isub, 1) := by decide +kernel
theorem dX6_run_46 : decode cX6_run 46 = .ok (.invokevirtual 43, 3) := by decide +kernel
theorem dX6_run_49 : decode cX6_run 49 = .ok (.goto 76, 3) := by decide +kernel
theorem dX6_run_52 : decode cX6_run 52 = .ok (.iload 4, 2) := by decide +kernel
theorem dX6_run_54 : decode cX6_run 54 = .ok (.invokestatic 47, 3) := by decide +kernel
theorem dX6_run_57 : decode cX6_run 57 = .ok (.ifCond .eq 20, 3) := by decide +kernel
theorem dX6_run_60 : decode cX6_run 60 = .ok (.aload_n 0, 1) := by decide +kernel
theorem dX6_run_61 : decode cX6_run 61 = .ok (.iload 4, 2) := by decide +kernel
theorem dX6_run_63 : decode cX6_run 63 = .ok (.bipush 97, 2) := by decide +kernel
theorem dX6_run_65 : decode cX6_run 65 = .ok (.isub, 1) := by decide +kernel
theorem dX6_run_66 : decode cX6_run 66 = .ok (.iload 5, 2) := by decide +kernel
theorem dX6_run_68 : decode cX6_run 68 = .ok (.bipush 48, 2) := by decide +kernel
theorem dX6_run_70 : decode cX6_run 70 = .ok (.isub, 1) := by decide +kernel
theorem dX6_run_71 : decode cX6_run 71 = .ok (.invokevirtual 43, 3) := by decide +kernel
theorem dX6_run_74 : decode cX6_run 74 = .ok (.goto 51, 3) := by decide +kernel
theorem dX6_run_77 : decode cX6_run 77 = .ok (.iload 4, 2) := by decide +kernel
theorem dX6_run_79 : decode cX6_run 79 = .ok (.bipush 63, 2) := by decide +kernel
theorem dX6_run_81 : decode cX6_run 81 = .ok (.if_icmp .ne 29, 3) := by decide +kernel
theorem dX6_run_84 : decode cX6_run 84 = .ok (.aload_n 0, 1) := by decide +kernel
theorem dX6_run_85 : decode cX6_run 85 = .ok (.iload 5, 2) := by decide +kernel
theorem dX6_run_87 : decode cX6_run 87 = .ok (.bipush 97, 2) := by decide +kernel
theorem dX6_run_89 : decode cX6_run 89 = .ok (.isub, 1) := by decide +kernel
theorem dX6_run_90 : decode cX6_run 90 = .ok (.aload_n 2, 1) := by decide +kernel
theorem dX6_run_91 : decode cX6_run 91 = .ok (.iload_n 3, 1) := by decide +kernel
theorem dX6_run_92 : decode cX6_run 92 = .ok (.iconst 2, 1) := by decide +kernel
theorem dX6_run_93 : decode cX6_run 93 = .ok (.iadd, 1) := by decide +kernel
theorem dX6_run_94 : decode cX6_run 94 = .ok (.invokevirtual 39, 3) := by decide +kernel
theorem dX6_run_97 : decode cX6_run 97 = .ok (.bipush 97, 2) := by decide +kernel
theorem dX6_run_99 : decode cX6_run 99 = .ok (.isub, 1) := by decide +kernel
theorem dX6_run_100 : decode cX6_run 100 = .ok (.aload_n 1, 1) := by decide +kernel
theorem dX6_run_101 : decode cX6_run 101 = .ok (.getfield 51, 3) := by decide +kernel
theorem dX6_run_104 : decode cX6_run 104 = .ok (.invokevirtual 56, 3) := by decide +kernel
theorem dX6_run_107 : decode cX6_run 107 = .ok (.goto 18, 3) := by decide +kernel
theorem dX6_run_110 : decode cX6_run 110 = .ok (.aload_n 0, 1) := by decide +kernel
theorem dX6_run_111 : decode cX6_run 111 = .ok (.iload 4, 2) := by decide +kernel
theorem dX6_run_113 : decode cX6_run 113 = .ok (.iload 5, 2) := by decide +kernel
theorem dX6_run_115 : decode cX6_run 115 = .ok (.bipush 97, 2) := by decide +kernel
theorem dX6_run_117 : decode cX6_run 117 = .ok (.isub, 1) := by decide +kernel
theorem dX6_run_118 : decode cX6_run 118 = .ok (.aload_n 1, 1) := by decide +kernel
theorem dX6_run_119 : decode cX6_run 119 = .ok (.getfield 60, 3) := by decide +kernel
theorem dX6_run_122 : decode cX6_run 122 = .ok (.invokevirtual 63, 3) := by decide +kernel
theorem dX6_run_125 : decode cX6_run 125 = .ok (.iload_n 3, 1) := by decide +kernel
theorem dX6_run_126 : decode cX6_run 126 = .ok (.aload_n 2, 1) := by decide +kernel
theorem dX6_run_127 : decode cX6_run 127 = .ok (.iload_n 3, 1) := by decide +kernel
theorem dX6_run_128 : decode cX6_run 128 = .ok (.invokevirtual 39, 3) := by decide +kernel
theorem dX6_run_131 : decode cX6_run 131 = .ok (.bipush 63, 2) := by decide +kernel
theorem dX6_run_133 : decode cX6_run 133 = .ok (.if_icmp .ne 7, 3) := by decide +kernel
theorem dX6_run_136 : decode cX6_run 136 = .ok (.iconst 3, 1) := by decide +kernel
theorem dX6_run_137 : decode cX6_run 137 = .ok (.goto 4, 3) := by decide +kernel
theorem dX6_run_140 : decode cX6_run 140 = .ok (.iconst 2, 1) := by decide +kernel
theorem dX6_run_141 : decode cX6_run 141 = .ok (.iadd, 1) := by decide +kernel
theorem dX6_run_142 : decode cX6_run 142 = .ok (.istore_n 3, 1) := by decide +kernel
theorem dX6_run_143 : decode cX6_run 143 = .ok (.goto (-136), 3) := by decide +kernel
theorem dX6_run_146 : decode cX6_run 146 = .ok (.return_, 1) := by decide +kernel
theorem dX6_ofAll_0 : decode cX6_ofAll 0 = .ok (.iload_n 1, 1) := by decide +kernel
theorem dX6_ofAll_1 : decode cX6_ofAll 1 = .ok (.ifCond .ne 10, 3) := by decide +kernel
theorem dX6_ofAll_4 : decode cX6_ofAll 4 = .ok (.aload_n 0, 1) := by decide +kernel
theorem dX6_ofAll_5 : decode cX6_ofAll 5 = .ok (.getfield 20, 3) := by decide +kernel
theorem dX6_ofAll_8 : decode cX6_ofAll 8 = .ok (.goto 19, 3) := by decide +kernel
theorem dX6_ofAll_11 : decode cX6_ofAll 11 = .ok (.iload_n 1, 1) := by decide +kernel
theorem dX6_ofAll_12 : decode cX6_ofAll 12 = .ok (.iconst 1, 1) := by decide +kernel
theorem dX6_ofAll_13 : decode cX6_ofAll 13 = .ok (.if_icmp .ne 10, 3) := by decide +kernel
theorem dX6_ofAll_16 : decode cX6_ofAll 16 = .ok (.aload_n 0, 1) := by decide +kernel
theorem dX6_ofAll_17 : decode cX6_ofAll 17 = .ok (.getfield 27, 3) := by decide +kernel
theorem dX6_ofAll_20 : decode cX6_ofAll 20 = .ok (.goto 7, 3) := by decide +kernel
theorem dX6_ofAll_23 : decode cX6_ofAll 23 = .ok (.aload_n 0, 1) := by decide +kernel
theorem dX6_ofAll_24 : decode cX6_ofAll 24 = .ok (.getfield 24, 3) := by decide +kernel
theorem dX6_ofAll_27 : decode cX6_ofAll 27 = .ok (.ireturn, 1) := by decide +kernel
theorem dX6_ofOne_0 : decode cX6_ofOne 0 = .ok (.iload_n 2, 1) := by decide +kernel
theorem dX6_ofOne_1 : decode cX6_ofOne 1 = .ok (.invokestatic 66, 3) := by decide +kernel
theorem dX6_ofOne_4 : decode cX6_ofOne 4 = .ok (.ifCond .ne 6, 3) := by decide +kernel
theorem dX6_ofOne_7 : decode cX6_ofOne 7 = .ok (.bipush (-6), 2) := by decide +kernel
theorem dX6_ofOne_9 : decode cX6_ofOne 9 = .ok (.ireturn, 1) := by decide +kernel
theorem dX6_ofOne_10 : decode cX6_ofOne 10 = .ok (.iload_n 1, 1) := by decide +kernel
theorem dX6_ofOne_11 : decode cX6_ofOne 11 = .ok (.iconst 1, 1) := by decide +kernel
theorem dX6_ofOne_12 : decode cX6_ofOne 12 = .ok (.if_icmp .ne 12, 3) := by decide +kernel
theorem dX6_ofOne_15 : decode cX6_ofOne 15 = .ok (.aload_n 0, 1) := by decide +kernel
theorem dX6_ofOne_16 : decode cX6_ofOne 16 = .ok (.getfield 16, 3) := by decide +kernel
theorem dX6_ofOne_19 : decode cX6_ofOne 19 = .ok (.iload_n 2, 1) := by decide +kernel
theorem dX6_ofOne_20 : decode cX6_ofOne 20 = .ok (.iaload, 1) := by decide +kernel
theorem dX6_ofOne_21 : decode cX6_ofOne 21 = .ok (.goto 20, 3) := by decide +kernel
theorem dX6_ofOne_24 : decode cX6_ofOne 24 = .ok (.aload_n 0, 1) := by decide +kernel
theorem dX6_ofOne_25 : decode cX6_ofOne 25 = .ok (.getfield 11, 3) := by decide +kernel
theorem dX6_ofOne_28 : decode cX6_ofOne 28 = .ok (.iload_n 1, 1) := by decide +kernel
theorem dX6_ofOne_29 : decode cX6_ofOne 29 = .ok (.iconst 2, 1) := by decide +kernel
theorem dX6_ofOne_30 : decode cX6_ofOne 30 = .ok (.if_icmp .ne 7, 3) := by decide +kernel
theorem dX6_ofOne_33 : decode cX6_ofOne 33 = .ok (.iconst 0, 1) := by decide +kernel
theorem dX6_ofOne_34 : decode cX6_ofOne 34 = .ok (.goto 4, 3) := by decide +kernel
theorem dX6_ofOne_37 : decode cX6_ofOne 37 = .ok (.iconst 3, 1) := by decide +kernel
theorem dX6_ofOne_38 : decode cX6_ofOne 38 = .ok (.aaload, 1) := by decide +kernel
theorem dX6_ofOne_39 : decode cX6_ofOne 39 = .ok (.iload_n 2, 1) := by decide +kernel
theorem dX6_ofOne_40 : decode cX6_ofOne 40 = .ok (.iaload, 1) := by decide +kernel
theorem dX6_ofOne_41 : decode cX6_ofOne 41 = .ok (.ireturn, 1) := by decide +kernel
theorem dX6_begin_0 : decode cX6_begin 0 = .ok (.aload_n 1, 1) := by decide +kernel
theorem dX6_begin_1 : decode cX6_begin 1 = .ok (.getfield 69, 3) := by decide +kernel
theorem dX6_begin_4 : decode cX6_begin 4 = .ok (.aload_n 0, 1) := by decide +kernel
theorem dX6_begin_5 : decode cX6_begin 5 = .ok (.getfield 11, 3) := by decide +kernel
theorem dX6_begin_8 : decode cX6_begin 8 = .ok (.iconst 4, 1) := by decide +kernel
theorem dX6_begin_9 : decode cX6_begin 9 = .ok (.invokestatic 70, 3) := by decide +kernel
theorem dX6_begin_12 : decode cX6_begin 12 = .ok (.iconst 0, 1) := by decide +kernel
theorem dX6_begin_13 : decode cX6_begin 13 = .ok (.istore_n 2, 1) := by decide +kernel
theorem dX6_begin_14 : decode cX6_begin 14 = .ok (.iload_n 2, 1) := by decide +kernel
theorem dX6_begin_15 : decode cX6_begin 15 = .ok (.bipush 6, 2) := by decide +kernel
theorem dX6_begin_17 : decode cX6_begin 17 = .ok (.if_icmp .ge 16, 3) := by decide +kernel
theorem dX6_begin_20 : decode cX6_begin 20 = .ok (.aload_n 0, 1) := by decide +kernel
theorem dX6_begin_21 : decode cX6_begin 21 = .ok (.getfield 16, 3) := by decide +kernel
theorem dX6_begin_24 : decode cX6_begin 24 = .ok (.iload_n 2, 1) := by decide +kernel
theorem dX6_begin_25 : decode cX6_begin 25 = .ok (.iconst 0, 1) := by decide +kernel
theorem dX6_begin_26 : decode cX6_begin 26 = .ok (.iastore, 1) := by decide +kernel
theorem dX6_begin_27 : decode cX6_begin 27 = .ok (.iinc 2 1, 3) := by decide +kernel
theorem dX6_begin_30 : decode cX6_begin 30 = .ok (.goto (-16), 3) := by decide +kernel
theorem dX6_begin_33 : decode cX6_begin 33 = .ok (.aload_n 0, 1) := by decide +kernel
theorem dX6_begin_34 : decode cX6_begin 34 = .ok (.iconst 0, 1) := by decide +kernel
theorem dX6_begin_35 : decode cX6_begin 35 = .ok (.putfield 20, 3) := by decide +kernel
theorem dX6_begin_38 : decode cX6_begin 38 = .ok (.aload_n 0, 1) := by decide +kernel
theorem dX6_begin_39 : decode cX6_begin 39 = .ok (.iconst 0, 1) := by decide +kernel
theorem dX6_begin_40 : decode cX6_begin 40 = .ok (.putfield 24, 3) := by decide +kernel
theorem dX6_begin_43 : decode cX6_begin 43 = .ok (.aload_n 0, 1) := by decide +kernel
theorem dX6_begin_44 : decode cX6_begin 44 = .ok (.bipush (-6), 2) := by decide +kernel
theorem dX6_begin_46 : decode cX6_begin 46 = .ok (.putfield 27, 3) := by decide +kernel
theorem dX6_begin_49 : decode cX6_begin 49 = .ok (.return_, 1) := by decide +kernel
theorem dX6_ask_0 : decode cX6_ask 0 = .ok (.aload_n 0, 1) := by decide +kernel
theorem dX6_ask_1 : decode cX6_ask 1 = .ok (.iload_n 1, 1) := by decide +kernel
theorem dX6_ask_2 : decode cX6_ask 2 = .ok (.invokevirtual 74, 3) := by decide +kernel
theorem dX6_ask_5 : decode cX6_ask 5 = .ok (.ifCond .eq 20, 3) := by decide +kernel
theorem dX6_ask_8 : decode cX6_ask 8 = .ok (.aload_n 0, 1) := by decide +kernel
theorem dX6_ask_9 : decode cX6_ask 9 = .ok (.iload_n 2, 1) := by decide +kernel
theorem dX6_ask_10 : decode cX6_ask 10 = .ok (.invokevirtual 74, 3) := by decide +kernel
theorem dX6_ask_13 : decode cX6_ask 13 = .ok (.ifCond .eq 12, 3) := by decide +kernel
theorem dX6_ask_16 : decode cX6_ask 16 = .ok (.aload_n 0, 1) := by decide +kernel
theorem dX6_ask_17 : decode cX6_ask 17 = .ok (.getfield 11, 3) := by decide +kernel
theorem dX6_ask_20 : decode cX6_ask 20 = .ok (.iconst 3, 1) := by decide +kernel
theorem dX6_ask_21 : decode cX6_ask 21 = .ok (.aaload, 1) := by decide +kernel
theorem dX6_ask_22 : decode cX6_ask 22 = .ok (.iload_n 2, 1) := by decide +kernel
theorem dX6_ask_23 : decode cX6_ask 23 = .ok (.iload_n 3, 1) := by decide +kernel
theorem dX6_ask_24 : decode cX6_ask 24 = .ok (.iastore, 1) := by decide +kernel
theorem dX6_ask_25 : decode cX6_ask 25 = .ok (.return_, 1) := by decide +kernel
theorem dX6_stir_0 : decode cX6_stir 0 = .ok (.iload_n 2, 1) := by decide +kernel
theorem dX6_stir_1 : decode cX6_stir 1 = .ok (.invokestatic 66, 3) := by decide +kernel
theorem dX6_stir_4 : decode cX6_stir 4 = .ok (.ifCond .ne 4, 3) := by decide +kernel
theorem dX6_stir_7 : decode cX6_stir 7 = .ok (.return_, 1) := by decide +kernel
theorem dX6_stir_8 : decode cX6_stir 8 = .ok (.iload_n 1, 1) := by decide +kernel
theorem dX6_stir_9 : decode cX6_stir 9 = .ok (.lookupswitch 118 #[(105, 97), (120, 67), (121, 55), (122, 43)], 43) := by decide +kernel
theorem dX6_stir_52 : decode cX6_stir 52 = .ok (.aload_n 0, 1) := by decide +kernel
theorem dX6_stir_53 : decode cX6_stir 53 = .ok (.getfield 11, 3) := by decide +kernel
theorem dX6_stir_56 : decode cX6_stir 56 = .ok (.iconst 2, 1) := by decide +kernel
theorem dX6_stir_57 : decode cX6_stir 57 = .ok (.aaload, 1) := by decide +kernel
theorem dX6_stir_58 : decode cX6_stir 58 = .ok (.iload_n 2, 1) := by decide +kernel
theorem dX6_stir_59 : decode cX6_stir 59 = .ok (.iconst 0, 1) := by decide +kernel
theorem dX6_stir_60 : decode cX6_stir 60 = .ok (.iastore, 1) := by decide +kernel
theorem dX6_stir_61 : decode cX6_stir 61 = .ok (.goto 100, 3) := by decide +kernel
theorem dX6_stir_64 : decode cX6_stir 64 = .ok (.aload_n 0, 1) := by decide +kernel
theorem dX6_stir_65 : decode cX6_stir 65 = .ok (.getfield 11, 3) := by decide +kernel
theorem dX6_stir_68 : decode cX6_stir 68 = .ok (.iconst 2, 1) := by decide +kernel
theorem dX6_stir_69 : decode cX6_stir 69 = .ok (.aaload, 1) := by decide +kernel
theorem dX6_stir_70 : decode cX6_stir 70 = .ok (.iload_n 2, 1) := by decide +kernel
theorem dX6_stir_71 : decode cX6_stir 71 = .ok (.iconst 1, 1) := by decide +kernel
theorem dX6_stir_72 : decode cX6_stir 72 = .ok (.iastore, 1) := by decide +kernel
theorem dX6_stir_73 : decode cX6_stir 73 = .ok (.goto 88, 3) := by decide +kernel
theorem dX6_stir_76 : decode cX6_stir 76 = .ok (.aload_n 0, 1) := by decide +kernel
theorem dX6_stir_77 : decode cX6_stir 77 = .ok (.getfield 11, 3) := by decide +kernel
theorem dX6_stir_80 : decode cX6_stir 80 = .ok (.iconst 1, 1) := by decide +kernel
theorem dX6_stir_81 : decode cX6_stir 81 = .ok (.aaload, 1) := by decide +kernel
theorem dX6_stir_82 : decode cX6_stir 82 = .ok (.iload_n 2, 1) := by decide +kernel
theorem dX6_stir_83 : decode cX6_stir 83 = .ok (.iconst 0, 1) := by decide +kernel
theorem dX6_stir_84 : decode cX6_stir 84 = .ok (.iastore, 1) := by decide +kernel
theorem dX6_stir_85 : decode cX6_stir 85 = .ok (.aload_n 0, 1) := by decide +kernel
theorem dX6_stir_86 : decode cX6_stir 86 = .ok (.getfield 11, 3) := by decide +kernel
theorem dX6_stir_89 : decode cX6_stir 89 = .ok (.iconst 0, 1) := by decide +kernel
theorem dX6_stir_90 : decode cX6_stir 90 = .ok (.aaload, 1) := by decide +kernel
theorem dX6_stir_91 : decode cX6_stir 91 = .ok (.iload_n 2, 1) := by decide +kernel
