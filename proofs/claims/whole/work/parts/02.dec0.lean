theorem dX0_init_0 : decode cX0_init 0 = .ok (.aload_n 0, 1) := by decide +kernel
theorem dX0_init_1 : decode cX0_init 1 = .ok (.invokespecial 3, 3) := by decide +kernel
theorem dX0_init_4 : decode cX0_init 4 = .ok (.aload_n 0, 1) := by decide +kernel
theorem dX0_init_5 : decode cX0_init 5 = .ok (.bipush 8, 2) := by decide +kernel
theorem dX0_init_7 : decode cX0_init 7 = .ok (.newarray .int, 2) := by decide +kernel
theorem dX0_init_9 : decode cX0_init 9 = .ok (.putfield 9, 3) := by decide +kernel
theorem dX0_init_12 : decode cX0_init 12 = .ok (.aload_n 0, 1) := by decide +kernel
theorem dX0_init_13 : decode cX0_init 13 = .ok (.bipush 6, 2) := by decide +kernel
theorem dX0_init_15 : decode cX0_init 15 = .ok (.newarray .int, 2) := by decide +kernel
theorem dX0_init_17 : decode cX0_init 17 = .ok (.putfield 15, 3) := by decide +kernel
theorem dX0_init_20 : decode cX0_init 20 = .ok (.aload_n 0, 1) := by decide +kernel
theorem dX0_init_21 : decode cX0_init 21 = .ok (.ldc 18, 2) := by decide +kernel
theorem dX0_init_23 : decode cX0_init 23 = .ok (.putfield 19, 3) := by decide +kernel
theorem dX0_init_26 : decode cX0_init 26 = .ok (.aload_n 0, 1) := by decide +kernel
theorem dX0_init_27 : decode cX0_init 27 = .ok (.iconst 0, 1) := by decide +kernel
theorem dX0_init_28 : decode cX0_init 28 = .ok (.putfield 23, 3) := by decide +kernel
theorem dX0_init_31 : decode cX0_init 31 = .ok (.aload_n 0, 1) := by decide +kernel
theorem dX0_init_32 : decode cX0_init 32 = .ok (.bipush 6, 2) := by decide +kernel
theorem dX0_init_34 : decode cX0_init 34 = .ok (.newarray .int, 2) := by decide +kernel
theorem dX0_init_36 : decode cX0_init 36 = .ok (.putfield 26, 3) := by decide +kernel
theorem dX0_init_39 : decode cX0_init 39 = .ok (.aload_n 0, 1) := by decide +kernel
theorem dX0_init_40 : decode cX0_init 40 = .ok (.bipush 6, 2) := by decide +kernel
theorem dX0_init_42 : decode cX0_init 42 = .ok (.newarray .int, 2) := by decide +kernel
theorem dX0_init_44 : decode cX0_init 44 = .ok (.putfield 29, 3) := by decide +kernel
theorem dX0_init_47 : decode cX0_init 47 = .ok (.aload_n 0, 1) := by decide +kernel
theorem dX0_init_48 : decode cX0_init 48 = .ok (.sipush 2048, 3) := by decide +kernel
theorem dX0_init_51 : decode cX0_init 51 = .ok (.newarray .int, 2) := by decide +kernel
theorem dX0_init_53 : decode cX0_init 53 = .ok (.putfield 32, 3) := by decide +kernel
theorem dX0_init_56 : decode cX0_init 56 = .ok (.aload_n 0, 1) := by decide +kernel
theorem dX0_init_57 : decode cX0_init 57 = .ok (.sipush 256, 3) := by decide +kernel
theorem dX0_init_60 : decode cX0_init 60 = .ok (.newarray .int, 2) := by decide +kernel
theorem dX0_init_62 : decode cX0_init 62 = .ok (.putfield 35, 3) := by decide +kernel
theorem dX0_init_65 : decode cX0_init 65 = .ok (.aload_n 0, 1) := by decide +kernel
theorem dX0_init_66 : decode cX0_init 66 = .ok (.sipush 256, 3) := by decide +kernel
theorem dX0_init_69 : decode cX0_init 69 = .ok (.newarray .boolean, 2) := by decide +kernel
theorem dX0_init_71 : decode cX0_init 71 = .ok (.putfield 38, 3) := by decide +kernel
theorem dX0_init_74 : decode cX0_init 74 = .ok (.aload_n 0, 1) := by decide +kernel
theorem dX0_init_75 : decode cX0_init 75 = .ok (.iconst 0, 1) := by decide +kernel
theorem dX0_init_76 : decode cX0_init 76 = .ok (.putfield 42, 3) := by decide +kernel
theorem dX0_init_79 : decode cX0_init 79 = .ok (.return_, 1) := by decide +kernel
theorem dX0_prepare_0 : decode cX0_prepare 0 = .ok (.aload_n 0, 1) := by decide +kernel
theorem dX0_prepare_1 : decode cX0_prepare 1 = .ok (.iconst 1, 1) := by decide +kernel
theorem dX0_prepare_2 : decode cX0_prepare 2 = .ok (.aload_n 1, 1) := by decide +kernel
theorem dX0_prepare_3 : decode cX0_prepare 3 = .ok (.getfield 45, 3) := by decide +kernel
theorem dX0_prepare_6 : decode cX0_prepare 6 = .ok (.ishl, 1) := by decide +kernel
theorem dX0_prepare_7 : decode cX0_prepare 7 = .ok (.iconst 1, 1) := by decide +kernel
theorem dX0_prepare_8 : decode cX0_prepare 8 = .ok (.isub, 1) := by decide +kernel
theorem dX0_prepare_9 : decode cX0_prepare 9 = .ok (.putfield 42, 3) := by decide +kernel
theorem dX0_prepare_12 : decode cX0_prepare 12 = .ok (.aload_n 1, 1) := by decide +kernel
theorem dX0_prepare_13 : decode cX0_prepare 13 = .ok (.getfield 50, 3) := by decide +kernel
theorem dX0_prepare_16 : decode cX0_prepare 16 = .ok (.iconst 0, 1) := by decide +kernel
theorem dX0_prepare_17 : decode cX0_prepare 17 = .ok (.aload_n 0, 1) := by decide +kernel
theorem dX0_prepare_18 : decode cX0_prepare 18 = .ok (.getfield 32, 3) := by decide +kernel
theorem dX0_prepare_21 : decode cX0_prepare 21 = .ok (.iconst 0, 1) := by decide +kernel
theorem dX0_prepare_22 : decode cX0_prepare 22 = .ok (.bipush 8, 2) := by decide +kernel
theorem dX0_prepare_24 : decode cX0_prepare 24 = .ok (.invokestatic 53, 3) := by decide +kernel
theorem dX0_prepare_27 : decode cX0_prepare 27 = .ok (.iconst 0, 1) := by decide +kernel
theorem dX0_prepare_28 : decode cX0_prepare 28 = .ok (.istore_n 2, 1) := by decide +kernel
theorem dX0_prepare_29 : decode cX0_prepare 29 = .ok (.iload_n 2, 1) := by decide +kernel
theorem dX0_prepare_30 : decode cX0_prepare 30 = .ok (.aload_n 1, 1) := by decide +kernel
theorem dX0_prepare_31 : decode cX0_prepare 31 = .ok (.getfield 45, 3) := by decide +kernel
theorem dX0_prepare_34 : decode cX0_prepare 34 = .ok (.if_icmp .ge 31, 3) := by decide +kernel
theorem dX0_prepare_37 : decode cX0_prepare 37 = .ok (.iconst 0, 1) := by decide +kernel
theorem dX0_prepare_38 : decode cX0_prepare 38 = .ok (.istore_n 3, 1) := by decide +kernel
theorem dX0_prepare_39 : decode cX0_prepare 39 = .ok (.iload_n 3, 1) := by decide +kernel
theorem dX0_prepare_40 : decode cX0_prepare 40 = .ok (.iconst 1, 1) := by decide +kernel
theorem dX0_prepare_41 : decode cX0_prepare 41 = .ok (.iload_n 2, 1) := by decide +kernel
theorem dX0_prepare_42 : decode cX0_prepare 42 = .ok (.ishl, 1) := by decide +kernel
theorem dX0_prepare_43 : decode cX0_prepare 43 = .ok (.if_icmp .ge 16, 3) := by decide +kernel
theorem dX0_prepare_46 : decode cX0_prepare 46 = .ok (.aload_n 0, 1) := by decide +kernel
theorem dX0_prepare_47 : decode cX0_prepare 47 = .ok (.aload_n 1, 1) := by decide +kernel
theorem dX0_prepare_48 : decode cX0_prepare 48 = .ok (.iload_n 3, 1) := by decide +kernel
theorem dX0_prepare_49 : decode cX0_prepare 49 = .ok (.iload_n 2, 1) := by decide +kernel
theorem dX0_prepare_50 : decode cX0_prepare 50 = .ok (.invokevirtual 59, 3) := by decide +kernel
theorem dX0_prepare_53 : decode cX0_prepare 53 = .ok (.iinc 3 1, 3) := by decide +kernel
theorem dX0_prepare_56 : decode cX0_prepare 56 = .ok (.goto (-17), 3) := by decide +kernel
theorem dX0_prepare_59 : decode cX0_prepare 59 = .ok (.iinc 2 1, 3) := by decide +kernel
theorem dX0_prepare_62 : decode cX0_prepare 62 = .ok (.goto (-33), 3) := by decide +kernel
theorem dX0_prepare_65 : decode cX0_prepare 65 = .ok (.return_, 1) := by decide +kernel
theorem dX0_needBehind_0 : decode cX0_needBehind 0 = .ok (.iload_n 2, 1) := by decide +kernel
theorem dX0_needBehind_1 : decode cX0_needBehind 1 = .ok (.iconst 1, 1) := by decide +kernel
theorem dX0_needBehind_2 : decode cX0_needBehind 2 = .ok (.iload_n 3, 1) := by decide +kernel
theorem dX0_needBehind_3 : decode cX0_needBehind 3 = .ok (.ishl, 1) := by decide +kernel
theorem dX0_needBehind_4 : decode cX0_needBehind 4 = .ok (.ior, 1) := by decide +kernel
theorem dX0_needBehind_5 : decode cX0_needBehind 5 = .ok (.istore 4, 2) := by decide +kernel
theorem dX0_needBehind_7 : decode cX0_needBehind 7 = .ok (.aload_n 1, 1) := by decide +kernel
theorem dX0_needBehind_8 : decode cX0_needBehind 8 = .ok (.getfield 50, 3) := by decide +kernel
theorem dX0_needBehind_11 : decode cX0_needBehind 11 = .ok (.iload_n 3, 1) := by decide +kernel
theorem dX0_needBehind_12 : decode cX0_needBehind 12 = .ok (.iaload, 1) := by decide +kernel
theorem dX0_needBehind_13 : decode cX0_needBehind 13 = .ok (.istore 5, 2) := by decide +kernel
theorem dX0_needBehind_15 : decode cX0_needBehind 15 = .ok (.iconst 0, 1) := by decide +kernel
theorem dX0_needBehind_16 : decode cX0_needBehind 16 = .ok (.istore 6, 2) := by decide +kernel
theorem dX0_needBehind_18 : decode cX0_needBehind 18 = .ok (.iload 6, 2) := by decide +kernel
theorem dX0_needBehind_20 : decode cX0_needBehind 20 = .ok (.aload_n 1, 1) := by decide +kernel
theorem dX0_needBehind_21 : decode cX0_needBehind 21 = .ok (.getfield 45, 3) := by decide +kernel
theorem dX0_needBehind_24 : decode cX0_needBehind 24 = .ok (.if_icmp .ge 63, 3) := by decide +kernel
theorem dX0_needBehind_27 : decode cX0_needBehind 27 = .ok (.aload_n 1, 1) := by decide +kernel
theorem dX0_needBehind_28 : decode cX0_needBehind 28 = .ok (.getfield 63, 3) := by decide +kernel
theorem dX0_needBehind_31 : decode cX0_needBehind 31 = .ok (.iload_n 3, 1) := by decide +kernel
theorem dX0_needBehind_32 : decode cX0_needBehind 32 = .ok (.iaload, 1) := by decide +kernel
theorem dX0_needBehind_33 : decode cX0_needBehind 33 = .ok (.aload_n 1, 1) := by decide +kernel
theorem dX0_needBehind_34 : decode cX0_needBehind 34 = .ok (.getfield 63, 3) := by decide +kernel
theorem dX0_needBehind_37 : decode cX0_needBehind 37 = .ok (.iload 6, 2) := by decide +kernel
theorem dX0_needBehind_39 : decode cX0_needBehind 39 = .ok (.iaload, 1) := by decide +kernel
theorem dX0_needBehind_40 : decode cX0_needBehind 40 = .ok (.if_icmp .ne 8, 3) := by decide +kernel
theorem dX0_needBehind_43 : decode cX0_needBehind 43 = .ok (.iload 5, 2) := by decide +kernel
theorem dX0_needBehind_45 : decode cX0_needBehind 45 = .ok (.goto 6, 3) := by decide +kernel
theorem dX0_needBehind_48 : decode cX0_needBehind 48 = .ok (.iload 5, 2) := by decide +kernel
theorem dX0_needBehind_50 : decode cX0_needBehind 50 = .ok (.ineg, 1) := by decide +kernel
theorem dX0_needBehind_51 : decode cX0_needBehind 51 = .ok (.istore 7, 2) := by decide +kernel
theorem dX0_needBehind_53 : decode cX0_needBehind 53 = .ok (.aload_n 0, 1) := by decide +kernel
theorem dX0_needBehind_54 : decode cX0_needBehind 54 = .ok (.getfield 32, 3) := by decide +kernel
theorem dX0_needBehind_57 : decode cX0_needBehind 57 = .ok (.iload 4, 2) := by decide +kernel
theorem dX0_needBehind_59 : decode cX0_needBehind 59 = .ok (.bipush 8, 2) := by decide +kernel
theorem dX0_needBehind_61 : decode cX0_needBehind 61 = .ok (.imul, 1) := by decide +kernel
theorem dX0_needBehind_62 : decode cX0_needBehind 62 = .ok (.iload 6, 2) := by decide +kernel
theorem dX0_needBehind_64 : decode cX0_needBehind 64 = .ok (.iadd, 1) := by decide +kernel
theorem dX0_needBehind_65 : decode cX0_needBehind 65 = .ok (.aload_n 0, 1) := by decide +kernel
theorem dX0_needBehind_66 : decode cX0_needBehind 66 = .ok (.getfield 32, 3) := by decide +kernel
theorem dX0_needBehind_69 : decode cX0_needBehind 69 = .ok (.iload_n 2, 1) := by decide +kernel
theorem dX0_needBehind_70 : decode cX0_needBehind 70 = .ok (.bipush 8, 2) := by decide +kernel
theorem dX0_needBehind_72 : decode cX0_needBehind 72 = .ok (.imul, 1) := by decide +kernel
theorem dX0_needBehind_73 : decode cX0_needBehind 73 = .ok (.iload 6, 2) := by decide +kernel
theorem dX0_needBehind_75 : decode cX0_needBehind 75 = .ok (.iadd, 1) := by decide +kernel
theorem dX0_needBehind_76 : decode cX0_needBehind 76 = .ok (.iaload, 1) := by decide +kernel
theorem dX0_needBehind_77 : decode cX0_needBehind 77 = .ok (.iload 7, 2) := by decide +kernel
theorem dX0_needBehind_79 : decode cX0_needBehind 79 = .ok (.iadd, 1) := by decide +kernel
theorem dX0_needBehind_80 : decode cX0_needBehind 80 = .ok (.iastore, 1) := by decide +kernel
theorem dX0_needBehind_81 : decode cX0_needBehind 81 = .ok (.iinc 6 1, 3) := by decide +kernel
theorem dX0_needBehind_84 : decode cX0_needBehind 84 = .ok (.goto (-66), 3) := by decide +kernel
theorem dX0_needBehind_87 : decode cX0_needBehind 87 = .ok (.return_, 1) := by decide +kernel
theorem dX0_takeShares_0 : decode cX0_takeShares 0 = .ok (.aload_n 1, 1) := by decide +kernel
theorem dX0_takeShares_1 : decode cX0_takeShares 1 = .ok (.iconst 0, 1) := by decide +kernel
theorem dX0_takeShares_2 : decode cX0_takeShares 2 = .ok (.aload_n 0, 1) := by decide +kernel
theorem dX0_takeShares_3 : decode cX0_takeShares 3 = .ok (.getfield 29, 3) := by decide +kernel
theorem dX0_takeShares_6 : decode cX0_takeShares 6 = .ok (.iconst 0, 1) := by decide +kernel
theorem dX0_takeShares_7 : decode cX0_takeShares 7 = .ok (.bipush 6, 2) := by decide +kernel
theorem dX0_takeShares_9 : decode cX0_takeShares 9 = .ok (.invokestatic 53, 3) := by decide +kernel
theorem dX0_takeShares_12 : decode cX0_takeShares 12 = .ok (.return_, 1) := by decide +kernel
theorem dX0_findHolders_0 : decode cX0_findHolders 0 = .ok (.aload_n 0, 1) := by decide +kernel
theorem dX0_findHolders_1 : decode cX0_findHolders 1 = .ok (.iconst 0, 1) := by decide +kernel
theorem dX0_findHolders_2 : decode cX0_findHolders 2 = .ok (.putfield 23, 3) := by decide +kernel
theorem dX0_findHolders_5 : decode cX0_findHolders 5 = .ok (.iconst 0, 1) := by decide +kernel
theorem dX0_findHolders_6 : decode cX0_findHolders 6 = .ok (.istore_n 2, 1) := by decide +kernel
theorem dX0_findHolders_7 : decode cX0_findHolders 7 = .ok (.iload_n 2, 1) := by decide +kernel
theorem dX0_findHolders_8 : decode cX0_findHolders 8 = .ok (.bipush 6, 2) := by decide +kernel
theorem dX0_findHolders_10 : decode cX0_findHolders 10 = .ok (.if_icmp .ge 37, 3) := by decide +kernel
theorem dX0_findHolders_13 : decode cX0_findHolders 13 = .ok (.aload_n 1, 1) := by decide +kernel
theorem dX0_findHolders_14 : decode cX0_findHolders 14 = .ok (.iload_n 2, 1) := by decide +kernel
theorem dX0_findHolders_15 : decode cX0_findHolders 15 = .ok (.invokevirtual 66, 3) := by decide +kernel
theorem dX0_findHolders_18 : decode cX0_findHolders 18 = .ok (.ifCond .eq 23, 3) := by decide +kernel
theorem dX0_findHolders_21 : decode cX0_findHolders 21 = .ok (.aload_n 0, 1) := by decide +kernel
theorem dX0_findHolders_22 : decode cX0_findHolders 22 = .ok (.getfield 26, 3) := by decide +kernel
theorem dX0_findHolders_25 : decode cX0_findHolders 25 = .ok (.aload_n 0, 1) := by decide +kernel
theorem dX0_findHolders_26 : decode cX0_findHolders 26 = .ok (.getfield 23, 3) := by decide +kernel
theorem dX0_findHolders_29 : decode cX0_findHolders 29 = .ok (.iload_n 2, 1) := by decide +kernel
theorem dX0_findHolders_30 : decode cX0_findHolders 30 = .ok (.iastore, 1) := by decide +kernel
theorem dX0_findHolders_31 : decode cX0_findHolders 31 = .ok (.aload_n 0, 1) := by decide +kernel
theorem dX0_findHolders_32 : decode cX0_findHolders 32 = .ok (.dup, 1) := by decide +kernel
theorem dX0_findHolders_33 : decode cX0_findHolders 33 = .ok (.getfield 23, 3) := by decide +kernel
theorem dX0_findHolders_36 : decode cX0_findHolders 36 = .ok (.iconst 1, 1) := by decide +kernel
theorem dX0_findHolders_37 : decode cX0_findHolders 37 = .ok (.iadd, 1) := by decide +kernel
theorem dX0_findHolders_38 : decode cX0_findHolders 38 = .ok (.putfield 23, 3) := by decide +kernel
theorem dX0_findHolders_41 : decode cX0_findHolders 41 = .ok (.iinc 2 1, 3) := by decide +kernel
theorem dX0_findHolders_44 : decode cX0_findHolders 44 = .ok (.goto (-37), 3) := by decide +kernel
theorem dX0_findHolders_47 : decode cX0_findHolders 47 = .ok (.return_, 1) := by decide +kernel
theorem dX0_leastPause_0 : decode cX0_leastPause 0 = .ok (.iconst 1, 1) := by decide +kernel
theorem dX0_leastPause_1 : decode cX0_leastPause 1 = .ok (.istore_n 3, 1) := by decide +kernel
theorem dX0_leastPause_2 : decode cX0_leastPause 2 = .ok (.iload_n 3, 1) := by decide +kernel
theorem dX0_leastPause_3 : decode cX0_leastPause 3 = .ok (.aload_n 0, 1) := by decide +kernel
theorem dX0_leastPause_4 : decode cX0_leastPause 4 = .ok (.getfield 42, 3) := by decide +kernel
theorem dX0_leastPause_7 : decode cX0_leastPause 7 = .ok (.if_icmp .gt 16, 3) := by decide +kernel
theorem dX0_leastPause_10 : decode cX0_leastPause 10 = .ok (.aload_n 0, 1) := by decide +kernel
theorem dX0_leastPause_11 : decode cX0_leastPause 11 = .ok (.getfield 35, 3) := by decide +kernel
theorem dX0_leastPause_14 : decode cX0_leastPause 14 = .ok (.iload_n 3, 1) := by decide +kernel
theorem dX0_leastPause_15 : decode cX0_leastPause 15 = .ok (.iload_n 2, 1) := by decide +kernel
theorem dX0_leastPause_16 : decode cX0_leastPause 16 = .ok (.iastore, 1) := by decide +kernel
theorem dX0_leastPause_17 : decode cX0_leastPause 17 = .ok (.iinc 3 1, 3) := by decide +kernel
theorem dX0_leastPause_20 : decode cX0_leastPause 20 = .ok (.goto (-18), 3) := by decide +kernel
theorem dX0_leastPause_23 : decode cX0_leastPause 23 = .ok (.aload_n 0, 1) := by decide +kernel
theorem dX0_leastPause_24 : decode cX0_leastPause 24 = .ok (.getfield 35, 3) := by decide +kernel
theorem dX0_leastPause_27 : decode cX0_leastPause 27 = .ok (.iconst 0, 1) := by decide +kernel
theorem dX0_leastPause_28 : decode cX0_leastPause 28 = .ok (.iconst 0, 1) := by decide +kernel
theorem dX0_leastPause_29 : decode cX0_leastPause 29 = .ok (.iastore, 1) := by decide +kernel
theorem dX0_leastPause_30 : decode cX0_leastPause 30 = .ok (.iconst 0, 1) := by decide +kernel
theorem dX0_leastPause_31 : decode cX0_leastPause 31 = .ok (.istore_n 3, 1) := by decide +kernel
theorem dX0_leastPause_32 : decode cX0_leastPause 32 = .ok (.iload_n 3, 1) := by decide +kernel
theorem dX0_leastPause_33 : decode cX0_leastPause 33 = .ok (.aload_n 0, 1) := by decide +kernel
theorem dX0_leastPause_34 : decode cX0_leastPause 34 = .ok (.getfield 42, 3) := by decide +kernel
theorem dX0_leastPause_37 : decode cX0_leastPause 37 = .ok (.if_icmp .ge 25, 3) := by decide +kernel
theorem dX0_leastPause_40 : decode cX0_leastPause 40 = .ok (.aload_n 0, 1) := by decide +kernel
theorem dX0_leastPause_41 : decode cX0_leastPause 41 = .ok (.getfield 35, 3) := by decide +kernel
theorem dX0_leastPause_44 : decode cX0_leastPause 44 = .ok (.iload_n 3, 1) := by decide +kernel
theorem dX0_leastPause_45 : decode cX0_leastPause 45 = .ok (.iaload, 1) := by decide +kernel
theorem dX0_leastPause_46 : decode cX0_leastPause 46 = .ok (.iload_n 2, 1) := by decide +kernel
theorem dX0_leastPause_47 : decode cX0_leastPause 47 = .ok (.if_icmp .ge 9, 3) := by decide +kernel
theorem dX0_leastPause_50 : decode cX0_leastPause 50 = .ok (.aload_n 0, 1) := by decide +kernel
theorem dX0_leastPause_51 : decode cX0_leastPause 51 = .ok (.aload_n 1, 1) := by decide +kernel
theorem dX0_leastPause_52 : decode cX0_leastPause 52 = .ok (.iload_n 3, 1) := by decide +kernel
theorem dX0_leastPause_53 : decode cX0_leastPause 53 = .ok (.invokevirtual 70, 3) := by decide +kernel
theorem dX0_leastPause_56 : decode cX0_leastPause 56 = .ok (.iinc 3 1, 3) := by decide +kernel
theorem dX0_leastPause_59 : decode cX0_leastPause 59 = .ok (.goto (-27), 3) := by decide +kernel
theorem dX0_leastPause_62 : decode cX0_leastPause 62 = .ok (.aload_n 0, 1) := by decide +kernel
theorem dX0_leastPause_63 : decode cX0_leastPause 63 = .ok (.getfield 35, 3) := by decide +kernel
theorem dX0_leastPause_66 : decode cX0_leastPause 66 = .ok (.aload_n 0, 1) := by decide +kernel
theorem dX0_leastPause_67 : decode cX0_leastPause 67 = .ok (.getfield 42, 3) := by decide +kernel
theorem dX0_leastPause_70 : decode cX0_leastPause 70 = .ok (.iaload, 1) := by decide +kernel
theorem dX0_leastPause_71 : decode cX0_leastPause 71 = .ok (.ireturn, 1) := by decide +kernel
theorem dX0_lengthen_0 : decode cX0_lengthen 0 = .ok (.iconst 0, 1) := by decide +kernel
theorem dX0_lengthen_1 : decode cX0_lengthen 1 = .ok (.istore_n 3, 1) := by decide +kernel
theorem dX0_lengthen_2 : decode cX0_lengthen 2 = .ok (.iload_n 3, 1) := by decide +kernel
theorem dX0_lengthen_3 : decode cX0_lengthen 3 = .ok (.aload_n 1, 1) := by decide +kernel
theorem dX0_lengthen_4 : decode cX0_lengthen 4 = .ok (.getfield 45, 3) := by decide +kernel
theorem dX0_lengthen_7 : decode cX0_lengthen 7 = .ok (.if_icmp .ge 62, 3) := by decide +kernel
theorem dX0_lengthen_10 : decode cX0_lengthen 10 = .ok (.aload_n 1, 1) := by decide +kernel
theorem dX0_lengthen_11 : decode cX0_lengthen 11 = .ok (.iload_n 3, 1) := by decide +kernel
theorem dX0_lengthen_12 : decode cX0_lengthen 12 = .ok (.iload_n 2, 1) := by decide +kernel
theorem dX0_lengthen_13 : decode cX0_lengthen 13 = .ok (.invokevirtual 74, 3) := by decide +kernel
theorem dX0_lengthen_16 : decode cX0_lengthen 16 = .ok (.ifCond .eq 47, 3) := by decide +kernel
theorem dX0_lengthen_19 : decode cX0_lengthen 19 = .ok (.iload_n 2, 1) := by decide +kernel
theorem dX0_lengthen_20 : decode cX0_lengthen 20 = .ok (.iconst 1, 1) := by decide +kernel
theorem dX0_lengthen_21 : decode cX0_lengthen 21 = .ok (.iload_n 3, 1) := by decide +kernel
theorem dX0_lengthen_22 : decode cX0_lengthen 22 = .ok (.ishl, 1) := by decide +kernel
theorem dX0_lengthen_23 : decode cX0_lengthen 23 = .ok (.ior, 1) := by decide +kernel
theorem dX0_lengthen_24 : decode cX0_lengthen 24 = .ok (.istore 4, 2) := by decide +kernel
theorem dX0_lengthen_26 : decode cX0_lengthen 26 = .ok (.aload_n 0, 1) := by decide +kernel
theorem dX0_lengthen_27 : decode cX0_lengthen 27 = .ok (.getfield 35, 3) := by decide +kernel
theorem dX0_lengthen_30 : decode cX0_lengthen 30 = .ok (.iload_n 2, 1) := by decide +kernel
theorem dX0_lengthen_31 : decode cX0_lengthen 31 = .ok (.iaload, 1) := by decide +kernel
theorem dX0_lengthen_32 : decode cX0_lengthen 32 = .ok (.aload_n 0, 1) := by decide +kernel
theorem dX0_lengthen_33 : decode cX0_lengthen 33 = .ok (.aload_n 1, 1) := by decide +kernel
theorem dX0_lengthen_34 : decode cX0_lengthen 34 = .ok (.iload_n 2, 1) := by decide +kernel
theorem dX0_lengthen_35 : decode cX0_lengthen 35 = .ok (.iload_n 3, 1) := by decide +kernel
theorem dX0_lengthen_36 : decode cX0_lengthen 36 = .ok (.invokevirtual 78, 3) := by decide +kernel
theorem dX0_lengthen_39 : decode cX0_lengthen 39 = .ok (.invokestatic 82, 3) := by decide +kernel
theorem dX0_lengthen_42 : decode cX0_lengthen 42 = .ok (.istore 5, 2) := by decide +kernel
theorem dX0_lengthen_44 : decode cX0_lengthen 44 = .ok (.aload_n 0, 1) := by decide +kernel
theorem dX0_lengthen_45 : decode cX0_lengthen 45 = .ok (.getfield 35, 3) := by decide +kernel
theorem dX0_lengthen_48 : decode cX0_lengthen 48 = .ok (.iload 4, 2) := by decide +kernel
theorem dX0_lengthen_50 : decode cX0_lengthen 50 = .ok (.aload_n 0, 1) := by decide +kernel
theorem dX0_lengthen_51 : decode cX0_lengthen 51 = .ok (.getfield 35, 3) := by decide +kernel
theorem dX0_lengthen_54 : decode cX0_lengthen 54 = .ok (.iload 4, 2) := by decide +kernel
theorem dX0_lengthen_56 : decode cX0_lengthen 56 = .ok (.iaload, 1) := by decide +kernel
theorem dX0_lengthen_57 : decode cX0_lengthen 57 = .ok (.iload 5, 2) := by decide +kernel
theorem dX0_lengthen_59 : decode cX0_lengthen 59 = .ok (.invokestatic 88, 3) := by decide +kernel
theorem dX0_lengthen_62 : decode cX0_lengthen 62 = .ok (.iastore, 1) := by decide +kernel
theorem dX0_lengthen_63 : decode cX0_lengthen 63 = .ok (.iinc 3 1, 3) := by decide +kernel
theorem dX0_lengthen_66 : decode cX0_lengthen 66 = .ok (.goto (-64), 3) := by decide +kernel
theorem dX0_lengthen_69 : decode cX0_lengthen 69 = .ok (.return_, 1) := by decide +kernel
theorem dX0_findOrder_0 : decode cX0_findOrder 0 = .ok (.aload_n 0, 1) := by decide +kernel
theorem dX0_findOrder_1 : decode cX0_findOrder 1 = .ok (.getfield 38, 3) := by decide +kernel
theorem dX0_findOrder_4 : decode cX0_findOrder 4 = .ok (.aload_n 0, 1) := by decide +kernel
theorem dX0_findOrder_5 : decode cX0_findOrder 5 = .ok (.getfield 42, 3) := by decide +kernel
theorem dX0_findOrder_8 : decode cX0_findOrder 8 = .ok (.iconst 1, 1) := by decide +kernel
theorem dX0_findOrder_9 : decode cX0_findOrder 9 = .ok (.bastore, 1) := by decide +kernel
theorem dX0_findOrder_10 : decode cX0_findOrder 10 = .ok (.aload_n 0, 1) := by decide +kernel
theorem dX0_findOrder_11 : decode cX0_findOrder 11 = .ok (.getfield 42, 3) := by decide +kernel
theorem dX0_findOrder_14 : decode cX0_findOrder 14 = .ok (.iconst 1, 1) := by decide +kernel
theorem dX0_findOrder_15 : decode cX0_findOrder 15 = .ok (.isub, 1) := by decide +kernel
theorem dX0_findOrder_16 : decode cX0_findOrder 16 = .ok (.istore_n 3, 1) := by decide +kernel
theorem dX0_findOrder_17 : decode cX0_findOrder 17 = .ok (.iload_n 3, 1) := by decide +kernel
theorem dX0_findOrder_18 : decode cX0_findOrder 18 = .ok (.ifCond .lt 34, 3) := by decide +kernel
theorem dX0_findOrder_21 : decode cX0_findOrder 21 = .ok (.aload_n 0, 1) := by decide +kernel
theorem dX0_findOrder_22 : decode cX0_findOrder 22 = .ok (.getfield 38, 3) := by decide +kernel
theorem dX0_findOrder_25 : decode cX0_findOrder 25 = .ok (.iload_n 3, 1) := by decide +kernel
theorem dX0_findOrder_26 : decode cX0_findOrder 26 = .ok (.aload_n 0, 1) := by decide +kernel
theorem dX0_findOrder_27 : decode cX0_findOrder 27 = .ok (.aload_n 1, 1) := by decide +kernel
theorem dX0_findOrder_28 : decode cX0_findOrder 28 = .ok (.iload_n 3, 1) := by decide +kernel
theorem dX0_findOrder_29 : decode cX0_findOrder 29 = .ok (.iload_n 2, 1) := by decide +kernel
theorem dX0_findOrder_30 : decode cX0_findOrder 30 = .ok (.invokevirtual 91, 3) := by decide +kernel
theorem dX0_findOrder_33 : decode cX0_findOrder 33 = .ok (.aload_n 1, 1) := by decide +kernel
theorem dX0_findOrder_34 : decode cX0_findOrder 34 = .ok (.getfield 45, 3) := by decide +kernel
theorem dX0_findOrder_37 : decode cX0_findOrder 37 = .ok (.if_icmp .ge 7, 3) := by decide +kernel
theorem dX0_findOrder_40 : decode cX0_findOrder 40 = .ok (.iconst 1, 1) := by decide +kernel
theorem dX0_findOrder_41 : decode cX0_findOrder 41 = .ok (.goto 4, 3) := by decide +kernel
theorem dX0_findOrder_44 : decode cX0_findOrder 44 = .ok (.iconst 0, 1) := by decide +kernel
theorem dX0_findOrder_45 : decode cX0_findOrder 45 = .ok (.bastore, 1) := by decide +kernel
theorem dX0_findOrder_46 : decode cX0_findOrder 46 = .ok (.iinc 3 (-1), 3) := by decide +kernel
theorem dX0_findOrder_49 : decode cX0_findOrder 49 = .ok (.goto (-32), 3) := by decide +kernel
theorem dX0_findOrder_52 : decode cX0_findOrder 52 = .ok (.iconst 0, 1) := by decide +kernel
theorem dX0_findOrder_53 : decode cX0_findOrder 53 = .ok (.istore_n 3, 1) := by decide +kernel
theorem dX0_findOrder_54 : decode cX0_findOrder 54 = .ok (.iconst 0, 1) := by decide +kernel
theorem dX0_findOrder_55 : decode cX0_findOrder 55 = .ok (.istore 4, 2) := by decide +kernel
theorem dX0_findOrder_57 : decode cX0_findOrder 57 = .ok (.iload 4, 2) := by decide +kernel
theorem dX0_findOrder_59 : decode cX0_findOrder 59 = .ok (.aload_n 1, 1) := by decide +kernel
theorem dX0_findOrder_60 : decode cX0_findOrder 60 = .ok (.getfield 45, 3) := by decide +kernel
theorem dX0_findOrder_63 : decode cX0_findOrder 63 = .ok (.if_icmp .ge 44, 3) := by decide +kernel
theorem dX0_findOrder_66 : decode cX0_findOrder 66 = .ok (.aload_n 0, 1) := by decide +kernel
theorem dX0_findOrder_67 : decode cX0_findOrder 67 = .ok (.aload_n 1, 1) := by decide +kernel
theorem dX0_findOrder_68 : decode cX0_findOrder 68 = .ok (.iload_n 3, 1) := by decide +kernel
theorem dX0_findOrder_69 : decode cX0_findOrder 69 = .ok (.iload_n 2, 1) := by decide +kernel
theorem dX0_findOrder_70 : decode cX0_findOrder 70 = .ok (.invokevirtual 91, 3) := by decide +kernel
theorem dX0_findOrder_73 : decode cX0_findOrder 73 = .ok (.istore 5, 2) := by decide +kernel
theorem dX0_findOrder_75 : decode cX0_findOrder 75 = .ok (.iload 5, 2) := by decide +kernel
theorem dX0_findOrder_77 : decode cX0_findOrder 77 = .ok (.aload_n 1, 1) := by decide +kernel
theorem dX0_findOrder_78 : decode cX0_findOrder 78 = .ok (.getfield 45, 3) := by decide +kernel
theorem dX0_findOrder_81 : decode cX0_findOrder 81 = .ok (.if_icmp .lt 4, 3) := by decide +kernel
theorem dX0_findOrder_84 : decode cX0_findOrder 84 = .ok (.return_, 1) := by decide +kernel
theorem dX0_findOrder_85 : decode cX0_findOrder 85 = .ok (.aload_n 0, 1) := by decide +kernel
theorem dX0_findOrder_86 : decode cX0_findOrder 86 = .ok (.getfield 9, 3) := by decide +kernel
theorem dX0_findOrder_89 : decode cX0_findOrder 89 = .ok (.iload 4, 2) := by decide +kernel
theorem dX0_findOrder_91 : decode cX0_findOrder 91 = .ok (.iload 5, 2) := by decide +kernel
theorem dX0_findOrder_93 : decode cX0_findOrder 93 = .ok (.iastore, 1) := by decide +kernel
theorem dX0_findOrder_94 : decode cX0_findOrder 94 = .ok (.iload_n 3, 1) := by decide +kernel
theorem dX0_findOrder_95 : decode cX0_findOrder 95 = .ok (.iconst 1, 1) := by decide +kernel
theorem dX0_findOrder_96 : decode cX0_findOrder 96 = .ok (.iload 5, 2) := by decide +kernel
theorem dX0_findOrder_98 : decode cX0_findOrder 98 = .ok (.ishl, 1) := by decide +kernel
theorem dX0_findOrder_99 : decode cX0_findOrder 99 = .ok (.ior, 1) := by decide +kernel
theorem dX0_findOrder_100 : decode cX0_findOrder 100 = .ok (.istore_n 3, 1) := by decide +kernel
theorem dX0_findOrder_101 : decode cX0_findOrder 101 = .ok (.iinc 4 1, 3) := by decide +kernel
theorem dX0_findOrder_104 : decode cX0_findOrder 104 = .ok (.goto (-47), 3) := by decide +kernel
theorem dX0_findOrder_107 : decode cX0_findOrder 107 = .ok (.return_, 1) := by decide +kernel
theorem dX0_findBestDeal_0 : decode cX0_findBestDeal 0 = .ok (.aload_n 0, 1) := by decide +kernel
theorem dX0_findBestDeal_1 : decode cX0_findBestDeal 1 = .ok (.ldc 18, 2) := by decide +kernel
theorem dX0_findBestDeal_3 : decode cX0_findBestDeal 3 = .ok (.putfield 19, 3) := by decide +kernel
theorem dX0_findBestDeal_6 : decode cX0_findBestDeal 6 = .ok (.aload_n 0, 1) := by decide +kernel
theorem dX0_findBestDeal_7 : decode cX0_findBestDeal 7 = .ok (.aload_n 1, 1) := by decide +kernel
theorem dX0_findBestDeal_8 : decode cX0_findBestDeal 8 = .ok (.iconst 0, 1) := by decide +kernel
theorem dX0_findBestDeal_9 : decode cX0_findBestDeal 9 = .ok (.iload_n 2, 1) := by decide +kernel
theorem dX0_findBestDeal_10 : decode cX0_findBestDeal 10 = .ok (.invokestatic 94, 3) := by decide +kernel
theorem dX0_findBestDeal_13 : decode cX0_findBestDeal 13 = .ok (.return_, 1) := by decide +kernel
theorem dX0_deal_0 : decode cX0_deal 0 = .ok (.iload_n 2, 1) := by decide +kernel
theorem dX0_deal_1 : decode cX0_deal 1 = .ok (.ifCond .lt 16, 3) := by decide +kernel
theorem dX0_deal_4 : decode cX0_deal 4 = .ok (.iload_n 2, 1) := by decide +kernel
theorem dX0_deal_5 : decode cX0_deal 5 = .ok (.aload_n 0, 1) := by decide +kernel
theorem dX0_deal_6 : decode cX0_deal 6 = .ok (.getfield 23, 3) := by decide +kernel
theorem dX0_deal_9 : decode cX0_deal 9 = .ok (.if_icmp .ge 8, 3) := by decide +kernel
theorem dX0_deal_12 : decode cX0_deal 12 = .ok (.iload_n 2, 1) := by decide +kernel
theorem dX0_deal_13 : decode cX0_deal 13 = .ok (.iconst 4, 1) := by decide +kernel
theorem dX0_deal_14 : decode cX0_deal 14 = .ok (.if_icmp .lt 4, 3) := by decide +kernel
theorem dX0_deal_17 : decode cX0_deal 17 = .ok (.return_, 1) := by decide +kernel
theorem dX0_deal_18 : decode cX0_deal 18 = .ok (.iload_n 2, 1) := by decide +kernel
theorem dX0_deal_19 : decode cX0_deal 19 = .ok (.aload_n 0, 1) := by decide +kernel
theorem dX0_deal_20 : decode cX0_deal 20 = .ok (.getfield 23, 3) := by decide +kernel
theorem dX0_deal_23 : decode cX0_deal 23 = .ok (.iconst 1, 1) := by decide +kernel
theorem dX0_deal_24 : decode cX0_deal 24 = .ok (.isub, 1) := by decide +kernel
theorem dX0_deal_25 : decode cX0_deal 25 = .ok (.if_icmp .ne 7, 3) := by decide +kernel
theorem dX0_deal_28 : decode cX0_deal 28 = .ok (.iconst 1, 1) := by decide +kernel
theorem dX0_deal_29 : decode cX0_deal 29 = .ok (.goto 4, 3) := by decide +kernel
theorem dX0_deal_32 : decode cX0_deal 32 = .ok (.iconst 0, 1) := by decide +kernel
theorem dX0_deal_33 : decode cX0_deal 33 = .ok (.istore 4, 2) := by decide +kernel
theorem dX0_deal_35 : decode cX0_deal 35 = .ok (.iload_n 3, 1) := by decide +kernel
theorem dX0_deal_36 : decode cX0_deal 36 = .ok (.istore 5, 2) := by decide +kernel
theorem dX0_deal_38 : decode cX0_deal 38 = .ok (.iload 5, 2) := by decide +kernel
theorem dX0_deal_40 : decode cX0_deal 40 = .ok (.iload 4, 2) := by decide +kernel
theorem dX0_deal_42 : decode cX0_deal 42 = .ok (.ifCond .eq 7, 3) := by decide +kernel
theorem dX0_deal_45 : decode cX0_deal 45 = .ok (.iload_n 3, 1) := by decide +kernel
theorem dX0_deal_46 : decode cX0_deal 46 = .ok (.goto 4, 3) := by decide +kernel
theorem dX0_deal_49 : decode cX0_deal 49 = .ok (.iconst 0, 1) := by decide +kernel
theorem dX0_deal_50 : decode cX0_deal 50 = .ok (.if_icmp .lt 122, 3) := by decide +kernel
theorem dX0_deal_53 : decode cX0_deal 53 = .ok (.aload_n 0, 1) := by decide +kernel
theorem dX0_deal_54 : decode cX0_deal 54 = .ok (.getfield 29, 3) := by decide +kernel
theorem dX0_deal_57 : decode cX0_deal 57 = .ok (.aload_n 0, 1) := by decide +kernel
theorem dX0_deal_58 : decode cX0_deal 58 = .ok (.getfield 26, 3) := by decide +kernel
theorem dX0_deal_61 : decode cX0_deal 61 = .ok (.iload_n 2, 1) := by decide +kernel
theorem dX0_deal_62 : decode cX0_deal 62 = .ok (.iaload, 1) := by decide +kernel
theorem dX0_deal_63 : decode cX0_deal 63 = .ok (.iload 5, 2) := by decide +kernel
theorem dX0_deal_65 : decode cX0_deal 65 = .ok (.iastore, 1) := by decide +kernel
theorem dX0_deal_66 : decode cX0_deal 66 = .ok (.iload_n 2, 1) := by decide +kernel
theorem dX0_deal_67 : decode cX0_deal 67 = .ok (.iconst 1, 1) := by decide +kernel
theorem dX0_deal_68 : decode cX0_deal 68 = .ok (.iadd, 1) := by decide +kernel
theorem dX0_deal_69 : decode cX0_deal 69 = .ok (.istore 6, 2) := by decide +kernel
theorem dX0_deal_71 : decode cX0_deal 71 = .ok (.iload 6, 2) := by decide +kernel
theorem dX0_deal_73 : decode cX0_deal 73 = .ok (.aload_n 0, 1) := by decide +kernel
theorem dX0_deal_74 : decode cX0_deal 74 = .ok (.getfield 23, 3) := by decide +kernel
theorem dX0_deal_77 : decode cX0_deal 77 = .ok (.if_icmp .ge 25, 3) := by decide +kernel
theorem dX0_deal_80 : decode cX0_deal 80 = .ok (.aload_n 0, 1) := by decide +kernel
theorem dX0_deal_81 : decode cX0_deal 81 = .ok (.getfield 29, 3) := by decide +kernel
theorem dX0_deal_84 : decode cX0_deal 84 = .ok (.aload_n 0, 1) := by decide +kernel
theorem dX0_deal_85 : decode cX0_deal 85 = .ok (.getfield 26, 3) := by decide +kernel
theorem dX0_deal_88 : decode cX0_deal 88 = .ok (.iload 6, 2) := by decide +kernel
theorem dX0_deal_90 : decode cX0_deal 90 = .ok (.iaload, 1) := by decide +kernel
theorem dX0_deal_91 : decode cX0_deal 91 = .ok (.iload_n 3, 1) := by decide +kernel
theorem dX0_deal_92 : decode cX0_deal 92 = .ok (.iload 5, 2) := by decide +kernel
theorem dX0_deal_94 : decode cX0_deal 94 = .ok (.isub, 1) := by decide +kernel
theorem dX0_deal_95 : decode cX0_deal 95 = .ok (.iastore, 1) := by decide +kernel
theorem dX0_deal_96 : decode cX0_deal 96 = .ok (.iinc 6 1, 3) := by decide +kernel
theorem dX0_deal_99 : decode cX0_deal 99 = .ok (.goto (-28), 3) := by decide +kernel
theorem dX0_deal_102 : decode cX0_deal 102 = .ok (.aload_n 0, 1) := by decide +kernel
theorem dX0_deal_103 : decode cX0_deal 103 = .ok (.aload_n 1, 1) := by decide +kernel
theorem dX0_deal_104 : decode cX0_deal 104 = .ok (.aload_n 0, 1) := by decide +kernel
theorem dX0_deal_105 : decode cX0_deal 105 = .ok (.getfield 19, 3) := by decide +kernel
theorem dX0_deal_108 : decode cX0_deal 108 = .ok (.invokevirtual 98, 3) := by decide +kernel
theorem dX0_deal_111 : decode cX0_deal 111 = .ok (.istore 6, 2) := by decide +kernel
theorem dX0_deal_113 : decode cX0_deal 113 = .ok (.iload 6, 2) := by decide +kernel
theorem dX0_deal_115 : decode cX0_deal 115 = .ok (.aload_n 0, 1) := by decide +kernel
theorem dX0_deal_116 : decode cX0_deal 116 = .ok (.getfield 19, 3) := by decide +kernel
theorem dX0_deal_119 : decode cX0_deal 119 = .ok (.if_icmp .lt 6, 3) := by decide +kernel
theorem dX0_deal_122 : decode cX0_deal 122 = .ok (.goto 44, 3) := by decide +kernel
theorem dX0_deal_125 : decode cX0_deal 125 = .ok (.iload 4, 2) := by decide +kernel
theorem dX0_deal_127 : decode cX0_deal 127 = .ok (.ifCond .eq 27, 3) := by decide +kernel
theorem dX0_deal_130 : decode cX0_deal 130 = .ok (.aload_n 0, 1) := by decide +kernel
theorem dX0_deal_131 : decode cX0_deal 131 = .ok (.iload 6, 2) := by decide +kernel
theorem dX0_deal_133 : decode cX0_deal 133 = .ok (.putfield 19, 3) := by decide +kernel
theorem dX0_deal_136 : decode cX0_deal 136 = .ok (.aload_n 0, 1) := by decide +kernel
theorem dX0_deal_137 : decode cX0_deal 137 = .ok (.getfield 29, 3) := by decide +kernel
theorem dX0_deal_140 : decode cX0_deal 140 = .ok (.iconst 0, 1) := by decide +kernel
theorem dX0_deal_141 : decode cX0_deal 141 = .ok (.aload_n 0, 1) := by decide +kernel
theorem dX0_deal_142 : decode cX0_deal 142 = .ok (.getfield 15, 3) := by decide +kernel
theorem dX0_deal_145 : decode cX0_deal 145 = .ok (.iconst 0, 1) := by decide +kernel
theorem dX0_deal_146 : decode cX0_deal 146 = .ok (.bipush 6, 2) := by decide +kernel
theorem dX0_deal_148 : decode cX0_deal 148 = .ok (.invokestatic 53, 3) := by decide +kernel
theorem dX0_deal_151 : decode cX0_deal 151 = .ok (.goto 15, 3) := by decide +kernel
theorem dX0_deal_154 : decode cX0_deal 154 = .ok (.aload_n 0, 1) := by decide +kernel
theorem dX0_deal_155 : decode cX0_deal 155 = .ok (.aload_n 1, 1) := by decide +kernel
theorem dX0_deal_156 : decode cX0_deal 156 = .ok (.iload_n 2, 1) := by decide +kernel
theorem dX0_deal_157 : decode cX0_deal 157 = .ok (.iconst 1, 1) := by decide +kernel
theorem dX0_deal_158 : decode cX0_deal 158 = .ok (.iadd, 1) := by decide +kernel
theorem dX0_deal_159 : decode cX0_deal 159 = .ok (.iload_n 3, 1) := by decide +kernel
theorem dX0_deal_160 : decode cX0_deal 160 = .ok (.iload 5, 2) := by decide +kernel
theorem dX0_deal_162 : decode cX0_deal 162 = .ok (.isub, 1) := by decide +kernel
theorem dX0_deal_163 : decode cX0_deal 163 = .ok (.invokestatic 94, 3) := by decide +kernel
theorem dX0_deal_166 : decode cX0_deal 166 = .ok (.iinc 5 (-1), 3) := by decide +kernel
theorem dX0_deal_169 : decode cX0_deal 169 = .ok (.goto (-131), 3) := by decide +kernel
theorem dX0_deal_172 : decode cX0_deal 172 = .ok (.return_, 1) := by decide +kernel
theorem dX0_findNext_0 : decode cX0_findNext 0 = .ok (.iconst 0, 1) := by decide +kernel
theorem dX0_findNext_1 : decode cX0_findNext 1 = .ok (.istore 4, 2) := by decide +kernel
theorem dX0_findNext_3 : decode cX0_findNext 3 = .ok (.iload 4, 2) := by decide +kernel
theorem dX0_findNext_5 : decode cX0_findNext 5 = .ok (.aload_n 1, 1) := by decide +kernel
theorem dX0_findNext_6 : decode cX0_findNext 6 = .ok (.getfield 45, 3) := by decide +kernel
theorem dX0_findNext_9 : decode cX0_findNext 9 = .ok (.if_icmp .ge 48, 3) := by decide +kernel
theorem dX0_findNext_12 : decode cX0_findNext 12 = .ok (.aload_n 1, 1) := by decide +kernel
theorem dX0_findNext_13 : decode cX0_findNext 13 = .ok (.iload 4, 2) := by decide +kernel
theorem dX0_findNext_15 : decode cX0_findNext 15 = .ok (.iload_n 2, 1) := by decide +kernel
theorem dX0_findNext_16 : decode cX0_findNext 16 = .ok (.invokevirtual 74, 3) := by decide +kernel
theorem dX0_findNext_19 : decode cX0_findNext 19 = .ok (.ifCond .eq 32, 3) := by decide +kernel
theorem dX0_findNext_22 : decode cX0_findNext 22 = .ok (.aload_n 0, 1) := by decide +kernel
theorem dX0_findNext_23 : decode cX0_findNext 23 = .ok (.aload_n 1, 1) := by decide +kernel
theorem dX0_findNext_24 : decode cX0_findNext 24 = .ok (.iload_n 2, 1) := by decide +kernel
theorem dX0_findNext_25 : decode cX0_findNext 25 = .ok (.iload 4, 2) := by decide +kernel
theorem dX0_findNext_27 : decode cX0_findNext 27 = .ok (.invokevirtual 78, 3) := by decide +kernel
theorem dX0_findNext_30 : decode cX0_findNext 30 = .ok (.iload_n 3, 1) := by decide +kernel
theorem dX0_findNext_31 : decode cX0_findNext 31 = .ok (.if_icmp .gt 20, 3) := by decide +kernel
theorem dX0_findNext_34 : decode cX0_findNext 34 = .ok (.aload_n 0, 1) := by decide +kernel
theorem dX0_findNext_35 : decode cX0_findNext 35 = .ok (.getfield 38, 3) := by decide +kernel
theorem dX0_findNext_38 : decode cX0_findNext 38 = .ok (.iload_n 2, 1) := by decide +kernel
theorem dX0_findNext_39 : decode cX0_findNext 39 = .ok (.iconst 1, 1) := by decide +kernel
theorem dX0_findNext_40 : decode cX0_findNext 40 = .ok (.iload 4, 2) := by decide +kernel
theorem dX0_findNext_42 : decode cX0_findNext 42 = .ok (.ishl, 1) := by decide +kernel
theorem dX0_findNext_43 : decode cX0_findNext 43 = .ok (.ior, 1) := by decide +kernel
theorem dX0_findNext_44 : decode cX0_findNext 44 = .ok (.baload, 1) := by decide +kernel
theorem dX0_findNext_45 : decode cX0_findNext 45 = .ok (.ifCond .eq 6, 3) := by decide +kernel
theorem dX0_findNext_48 : decode cX0_findNext 48 = .ok (.iload 4, 2) := by decide +kernel
theorem dX0_findNext_50 : decode cX0_findNext 50 = .ok (.ireturn, 1) := by decide +kernel
theorem dX0_findNext_51 : decode cX0_findNext 51 = .ok (.iinc 4 1, 3) := by decide +kernel
theorem dX0_findNext_54 : decode cX0_findNext 54 = .ok (.goto (-51), 3) := by decide +kernel
theorem dX0_findNext_57 : decode cX0_findNext 57 = .ok (.aload_n 1, 1) := by decide +kernel
theorem dX0_findNext_58 : decode cX0_findNext 58 = .ok (.getfield 45, 3) := by decide +kernel
theorem dX0_findNext_61 : decode cX0_findNext 61 = .ok (.ireturn, 1) := by decide +kernel
theorem dX0_lack_0 : decode cX0_lack 0 = .ok (.aload_n 0, 1) := by decide +kernel
theorem dX0_lack_1 : decode cX0_lack 1 = .ok (.getfield 32, 3) := by decide +kernel
theorem dX0_lack_4 : decode cX0_lack 4 = .ok (.iload_n 2, 1) := by decide +kernel
theorem dX0_lack_5 : decode cX0_lack 5 = .ok (.bipush 8, 2) := by decide +kernel
theorem dX0_lack_7 : decode cX0_lack 7 = .ok (.imul, 1) := by decide +kernel
theorem dX0_lack_8 : decode cX0_lack 8 = .ok (.iload_n 3, 1) := by decide +kernel
theorem dX0_lack_9 : decode cX0_lack 9 = .ok (.iadd, 1) := by decide +kernel
theorem dX0_lack_10 : decode cX0_lack 10 = .ok (.iaload, 1) := by decide +kernel
theorem dX0_lack_11 : decode cX0_lack 11 = .ok (.aload_n 0, 1) := by decide +kernel
theorem dX0_lack_12 : decode cX0_lack 12 = .ok (.getfield 29, 3) := by decide +kernel
theorem dX0_lack_15 : decode cX0_lack 15 = .ok (.aload_n 1, 1) := by decide +kernel
theorem dX0_lack_16 : decode cX0_lack 16 = .ok (.getfield 63, 3) := by decide +kernel
theorem dX0_lack_19 : decode cX0_lack 19 = .ok (.iload_n 3, 1) := by decide +kernel
theorem dX0_lack_20 : decode cX0_lack 20 = .ok (.iaload, 1) := by decide +kernel
theorem dX0_lack_21 : decode cX0_lack 21 = .ok (.iaload, 1) := by decide +kernel
theorem dX0_lack_22 : decode cX0_lack 22 = .ok (.isub, 1) := by decide +kernel
theorem dX0_lack_23 : decode cX0_lack 23 = .ok (.ireturn, 1) := by decide +kernel
theorem dX1_init_0 : decode cX1_init 0 = .ok (.aload_n 0, 1) := by decide +kernel
theorem dX1_init_1 : decode cX1_init 1 = .ok (.invokespecial 3, 3) := by decide +kernel
theorem dX1_init_4 : decode cX1_init 4 = .ok (.aload_n 0, 1) := by decide +kernel
theorem dX1_init_5 : decode cX1_init 5 = .ok (.bipush 12, 2) := by decide +kernel
theorem dX1_init_7 : decode cX1_init 7 = .ok (.newarray .int, 2) := by decide +kernel
theorem dX1_init_9 : decode cX1_init 9 = .ok (.putfield 9, 3) := by decide +kernel
theorem dX1_init_12 : decode cX1_init 12 = .ok (.aload_n 0, 1) := by decide +kernel
theorem dX1_init_13 : decode cX1_init 13 = .ok (.iconst 0, 1) := by decide +kernel
theorem dX1_init_14 : decode cX1_init 14 = .ok (.putfield 15, 3) := by decide +kernel
theorem dX1_init_17 : decode cX1_init 17 = .ok (.aload_n 0, 1) := by decide +kernel
theorem dX1_init_18 : decode cX1_init 18 = .ok (.bipush 12, 2) := by decide +kernel
theorem dX1_init_20 : decode cX1_init 20 = .ok (.newarray .int, 2) := by decide +kernel
theorem dX1_init_22 : decode cX1_init 22 = .ok (.putfield 19, 3) := by decide +kernel
theorem dX1_init_25 : decode cX1_init 25 = .ok (.aload_n 0, 1) := by decide +kernel
theorem dX1_init_26 : decode cX1_init 26 = .ok (.bipush 6, 2) := by decide +kernel
theorem dX1_init_28 : decode cX1_init 28 = .ok (.newarray .int, 2) := by decide +kernel
theorem dX1_init_30 : decode cX1_init 30 = .ok (.putfield 22, 3) := by decide +kernel
theorem dX1_init_33 : decode cX1_init 33 = .ok (.aload_n 0, 1) := by decide +kernel
theorem dX1_init_34 : decode cX1_init 34 = .ok (.bipush 6, 2) := by decide +kernel
theorem dX1_init_36 : decode cX1_init 36 = .ok (.newarray .int, 2) := by decide +kernel
theorem dX1_init_38 : decode cX1_init 38 = .ok (.putfield 25, 3) := by decide +kernel
theorem dX1_init_41 : decode cX1_init 41 = .ok (.return_, 1) := by decide +kernel
theorem dX1_open_0 : decode cX1_open 0 = .ok (.aload_n 0, 1) := by decide +kernel
theorem dX1_open_1 : decode cX1_open 1 = .ok (.aload_n 1, 1) := by decide +kernel
theorem dX1_open_2 : decode cX1_open 2 = .ok (.getfield 28, 3) := by decide +kernel
theorem dX1_open_5 : decode cX1_open 5 = .ok (.bipush 12, 2) := by decide +kernel
theorem dX1_open_7 : decode cX1_open 7 = .ok (.invokestatic 33, 3) := by decide +kernel
theorem dX1_open_10 : decode cX1_open 10 = .ok (.putfield 15, 3) := by decide +kernel
theorem dX1_open_13 : decode cX1_open 13 = .ok (.iconst 0, 1) := by decide +kernel
theorem dX1_open_14 : decode cX1_open 14 = .ok (.istore_n 3, 1) := by decide +kernel
theorem dX1_open_15 : decode cX1_open 15 = .ok (.iload_n 3, 1) := by decide +kernel
theorem dX1_open_16 : decode cX1_open 16 = .ok (.aload_n 0, 1) := by decide +kernel
theorem dX1_open_17 : decode cX1_open 17 = .ok (.getfield 15, 3) := by decide +kernel
theorem dX1_open_20 : decode cX1_open 20 = .ok (.if_icmp .ge 23, 3) := by decide +kernel
theorem dX1_open_23 : decode cX1_open 23 = .ok (.aload_n 0, 1) := by decide +kernel
theorem dX1_open_24 : decode cX1_open 24 = .ok (.getfield 19, 3) := by decide +kernel
theorem dX1_open_27 : decode cX1_open 27 = .ok (.iload_n 3, 1) := by decide +kernel
theorem dX1_open_28 : decode cX1_open 28 = .ok (.aload_n 1, 1) := by decide +kernel
theorem dX1_open_29 : decode cX1_open 29 = .ok (.iload_n 3, 1) := by decide +kernel
theorem dX1_open_30 : decode cX1_open 30 = .ok (.invokevirtual 39, 3) := by decide +kernel
theorem dX1_open_33 : decode cX1_open 33 = .ok (.invokestatic 43, 3) := by decide +kernel
theorem dX1_open_36 : decode cX1_open 36 = .ok (.iastore, 1) := by decide +kernel
theorem dX1_open_37 : decode cX1_open 37 = .ok (.iinc 3 1, 3) := by decide +kernel
theorem dX1_open_40 : decode cX1_open 40 = .ok (.goto (-25), 3) := by decide +kernel
theorem dX1_open_43 : decode cX1_open 43 = .ok (.aload_n 2, 1) := by decide +kernel
theorem dX1_open_44 : decode cX1_open 44 = .ok (.iconst 0, 1) := by decide +kernel
theorem dX1_open_45 : decode cX1_open 45 = .ok (.aload_n 0, 1) := by decide +kernel
theorem dX1_open_46 : decode cX1_open 46 = .ok (.getfield 22, 3) := by decide +kernel
theorem dX1_open_49 : decode cX1_open 49 = .ok (.iconst 0, 1) := by decide +kernel
theorem dX1_open_50 : decode cX1_open 50 = .ok (.bipush 6, 2) := by decide +kernel
theorem dX1_open_52 : decode cX1_open 52 = .ok (.invokestatic 46, 3) := by decide +kernel
theorem dX1_open_55 : decode cX1_open 55 = .ok (.iconst 0, 1) := by decide +kernel
theorem dX1_open_56 : decode cX1_open 56 = .ok (.istore_n 3, 1) := by decide +kernel
theorem dX1_open_57 : decode cX1_open 57 = .ok (.iload_n 3, 1) := by decide +kernel
theorem dX1_open_58 : decode cX1_open 58 = .ok (.bipush 6, 2) := by decide +kernel
theorem dX1_open_60 : decode cX1_open 60 = .ok (.if_icmp .ge 16, 3) := by decide +kernel
theorem dX1_open_63 : decode cX1_open 63 = .ok (.aload_n 0, 1) := by decide +kernel
theorem dX1_open_64 : decode cX1_open 64 = .ok (.getfield 25, 3) := by decide +kernel
theorem dX1_open_67 : decode cX1_open 67 = .ok (.iload_n 3, 1) := by decide +kernel
theorem dX1_open_68 : decode cX1_open 68 = .ok (.iconst 0, 1) := by decide +kernel
theorem dX1_open_69 : decode cX1_open 69 = .ok (.iastore, 1) := by decide +kernel
theorem dX1_open_70 : decode cX1_open 70 = .ok (.iinc 3 1, 3) := by decide +kernel
theorem dX1_open_73 : decode cX1_open 73 = .ok (.goto (-16), 3) := by decide +kernel
theorem dX1_open_76 : decode cX1_open 76 = .ok (.return_, 1) := by decide +kernel
theorem dX1_sign_0 : decode cX1_sign 0 = .ok (.aload_n 0, 1) := by decide +kernel
theorem dX1_sign_1 : decode cX1_sign 1 = .ok (.getfield 9, 3) := by decide +kernel
theorem dX1_sign_4 : decode cX1_sign 4 = .ok (.iload_n 1, 1) := by decide +kernel
theorem dX1_sign_5 : decode cX1_sign 5 = .ok (.iaload, 1) := by decide +kernel
theorem dX1_sign_6 : decode cX1_sign 6 = .ok (.istore_n 2, 1) := by decide +kernel
theorem dX1_sign_7 : decode cX1_sign 7 = .ok (.iload_n 2, 1) := by decide +kernel
theorem dX1_sign_8 : decode cX1_sign 8 = .ok (.invokestatic 52, 3) := by decide +kernel
theorem dX1_sign_11 : decode cX1_sign 11 = .ok (.ifCond .eq 10, 3) := by decide +kernel
theorem dX1_sign_14 : decode cX1_sign 14 = .ok (.bipush 97, 2) := by decide +kernel
theorem dX1_sign_16 : decode cX1_sign 16 = .ok (.iload_n 2, 1) := by decide +kernel
theorem dX1_sign_17 : decode cX1_sign 17 = .ok (.iadd, 1) := by decide +kernel
theorem dX1_sign_18 : decode cX1_sign 18 = .ok (.goto 5, 3) := by decide +kernel
theorem dX1_sign_21 : decode cX1_sign 21 = .ok (.bipush 46, 2) := by decide +kernel
theorem dX1_sign_23 : decode cX1_sign 23 = .ok (.ireturn, 1) := by decide +kernel
theorem dX1_ways_0 : decode cX1_ways 0 = .ok (.iload_n 1, 1) := by decide +kernel
theorem dX1_ways_1 : decode cX1_ways 1 = .ok (.ifCond .lt 11, 3) := by decide +kernel
theorem dX1_ways_4 : decode cX1_ways 4 = .ok (.iload_n 1, 1) := by decide +kernel
theorem dX1_ways_5 : decode cX1_ways 5 = .ok (.aload_n 0, 1) := by decide +kernel
theorem dX1_ways_6 : decode cX1_ways 6 = .ok (.getfield 15, 3) := by decide +kernel
theorem dX1_ways_9 : decode cX1_ways 9 = .ok (.if_icmp .lt 5, 3) := by decide +kernel
theorem dX1_ways_12 : decode cX1_ways 12 = .ok (.iconst 1, 1) := by decide +kernel
theorem dX1_ways_13 : decode cX1_ways 13 = .ok (.ireturn, 1) := by decide +kernel
theorem dX1_ways_14 : decode cX1_ways 14 = .ok (.aload_n 0, 1) := by decide +kernel
theorem dX1_ways_15 : decode cX1_ways 15 = .ok (.getfield 19, 3) := by decide +kernel
theorem dX1_ways_18 : decode cX1_ways 18 = .ok (.iload_n 1, 1) := by decide +kernel
theorem dX1_ways_19 : decode cX1_ways 19 = .ok (.iaload, 1) := by decide +kernel
theorem dX1_ways_20 : decode cX1_ways 20 = .ok (.istore_n 3, 1) := by decide +kernel
theorem dX1_ways_21 : decode cX1_ways 21 = .ok (.iload_n 3, 1) := by decide +kernel
theorem dX1_ways_22 : decode cX1_ways 22 = .ok (.bipush 7, 2) := by decide +kernel
theorem dX1_ways_24 : decode cX1_ways 24 = .ok (.if_icmp .ne 7, 3) := by decide +kernel
theorem dX1_ways_27 : decode cX1_ways 27 = .ok (.iconst 0, 1) := by decide +kernel
theorem dX1_ways_28 : decode cX1_ways 28 = .ok (.goto 4, 3) := by decide +kernel
theorem dX1_ways_31 : decode cX1_ways 31 = .ok (.iload_n 3, 1) := by decide +kernel
theorem dX1_ways_32 : decode cX1_ways 32 = .ok (.istore 4, 2) := by decide +kernel
theorem dX1_ways_34 : decode cX1_ways 34 = .ok (.iload_n 3, 1) := by decide +kernel
theorem dX1_ways_35 : decode cX1_ways 35 = .ok (.bipush 7, 2) := by decide +kernel
theorem dX1_ways_37 : decode cX1_ways 37 = .ok (.if_icmp .ne 8, 3) := by decide +kernel
theorem dX1_ways_40 : decode cX1_ways 40 = .ok (.bipush 6, 2) := by decide +kernel
theorem dX1_ways_42 : decode cX1_ways 42 = .ok (.goto 4, 3) := by decide +kernel
theorem dX1_ways_45 : decode cX1_ways 45 = .ok (.iload_n 3, 1) := by decide +kernel
theorem dX1_ways_46 : decode cX1_ways 46 = .ok (.istore 5, 2) := by decide +kernel
theorem dX1_ways_48 : decode cX1_ways 48 = .ok (.iconst 0, 1) := by decide +kernel
theorem dX1_ways_49 : decode cX1_ways 49 = .ok (.istore 6, 2) := by decide +kernel
theorem dX1_ways_51 : decode cX1_ways 51 = .ok (.iload 4, 2) := by decide +kernel
theorem dX1_ways_53 : decode cX1_ways 53 = .ok (.istore 7, 2) := by decide +kernel
theorem dX1_ways_55 : decode cX1_ways 55 = .ok (.iload 7, 2) := by decide +kernel
theorem dX1_ways_57 : decode cX1_ways 57 = .ok (.iload 5, 2) := by decide +kernel
theorem dX1_ways_59 : decode cX1_ways 59 = .ok (.if_icmp .gt 63, 3) := by decide +kernel
theorem dX1_ways_62 : decode cX1_ways 62 = .ok (.iload 6, 2) := by decide +kernel
theorem dX1_ways_64 : decode cX1_ways 64 = .ok (.iload_n 2, 1) := by decide +kernel
theorem dX1_ways_65 : decode cX1_ways 65 = .ok (.if_icmp .gt 57, 3) := by decide +kernel
theorem dX1_ways_68 : decode cX1_ways 68 = .ok (.aload_n 0, 1) := by decide +kernel
theorem dX1_ways_69 : decode cX1_ways 69 = .ok (.iload_n 1, 1) := by decide +kernel
theorem dX1_ways_70 : decode cX1_ways 70 = .ok (.iload 7, 2) := by decide +kernel
theorem dX1_ways_72 : decode cX1_ways 72 = .ok (.invokevirtual 56, 3) := by decide +kernel
theorem dX1_ways_75 : decode cX1_ways 75 = .ok (.ifCond .eq 41, 3) := by decide +kernel
theorem dX1_ways_78 : decode cX1_ways 78 = .ok (.aload_n 0, 1) := by decide +kernel
theorem dX1_ways_79 : decode cX1_ways 79 = .ok (.getfield 9, 3) := by decide +kernel
theorem dX1_ways_82 : decode cX1_ways 82 = .ok (.iload_n 1, 1) := by decide +kernel
theorem dX1_ways_83 : decode cX1_ways 83 = .ok (.iload 7, 2) := by decide +kernel
theorem dX1_ways_85 : decode cX1_ways 85 = .ok (.iastore, 1) := by decide +kernel
theorem dX1_ways_86 : decode cX1_ways 86 = .ok (.aload_n 0, 1) := by decide +kernel
theorem dX1_ways_87 : decode cX1_ways 87 = .ok (.iload 7, 2) := by decide +kernel
theorem dX1_ways_89 : decode cX1_ways 89 = .ok (.iconst 1, 1) := by decide +kernel
theorem dX1_ways_90 : decode cX1_ways 90 = .ok (.invokevirtual 60, 3) := by decide +kernel
theorem dX1_ways_93 : decode cX1_ways 93 = .ok (.iload 6, 2) := by decide +kernel
theorem dX1_ways_95 : decode cX1_ways 95 = .ok (.aload_n 0, 1) := by decide +kernel
theorem dX1_ways_96 : decode cX1_ways 96 = .ok (.iload_n 1, 1) := by decide +kernel
theorem dX1_ways_97 : decode cX1_ways 97 = .ok (.iconst 1, 1) := by decide +kernel
theorem dX1_ways_98 : decode cX1_ways 98 = .ok (.iadd, 1) := by decide +kernel
theorem dX1_ways_99 : decode cX1_ways 99 = .ok (.iload_n 2, 1) := by decide +kernel
theorem dX1_ways_100 : decode cX1_ways 100 = .ok (.iload 6, 2) := by decide +kernel
theorem dX1_ways_102 : decode cX1_ways 102 = .ok (.isub, 1) := by decide +kernel
theorem dX1_ways_103 : decode cX1_ways 103 = .ok (.invokestatic 63, 3) := by decide +kernel
theorem dX1_ways_106 : decode cX1_ways 106 = .ok (.iadd, 1) := by decide +kernel
theorem dX1_ways_107 : decode cX1_ways 107 = .ok (.istore 6, 2) := by decide +kernel
theorem dX1_ways_109 : decode cX1_ways 109 = .ok (.aload_n 0, 1) := by decide +kernel
theorem dX1_ways_110 : decode cX1_ways 110 = .ok (.iload 7, 2) := by decide +kernel
theorem dX1_ways_112 : decode cX1_ways 112 = .ok (.iconst (-1), 1) := by decide +kernel
theorem dX1_ways_113 : decode cX1_ways 113 = .ok (.invokevirtual 60, 3) := by decide +kernel
theorem dX1_ways_116 : decode cX1_ways 116 = .ok (.iinc 7 1, 3) := by decide +kernel
theorem dX1_ways_119 : decode cX1_ways 119 = .ok (.goto (-64), 3) := by decide +kernel
theorem dX1_ways_122 : decode cX1_ways 122 = .ok (.iload 6, 2) := by decide +kernel
theorem dX1_ways_124 : decode cX1_ways 124 = .ok (.ireturn, 1) := by decide +kernel
theorem dX1_firstFalse_0 : decode cX1_firstFalse 0 = .ok (.iconst 0, 1) := by decide +kernel
theorem dX1_firstFalse_1 : decode cX1_firstFalse 1 = .ok (.istore_n 1, 1) := by decide +kernel
theorem dX1_firstFalse_2 : decode cX1_firstFalse 2 = .ok (.iload_n 1, 1) := by decide +kernel
theorem dX1_firstFalse_3 : decode cX1_firstFalse 3 = .ok (.aload_n 0, 1) := by decide +kernel
theorem dX1_firstFalse_4 : decode cX1_firstFalse 4 = .ok (.getfield 15, 3) := by decide +kernel
theorem dX1_firstFalse_7 : decode cX1_firstFalse 7 = .ok (.if_icmp .ge 36, 3) := by decide +kernel
theorem dX1_firstFalse_10 : decode cX1_firstFalse 10 = .ok (.aload_n 0, 1) := by decide +kernel
theorem dX1_firstFalse_11 : decode cX1_firstFalse 11 = .ok (.iload_n 1, 1) := by decide +kernel
theorem dX1_firstFalse_12 : decode cX1_firstFalse 12 = .ok (.aload_n 0, 1) := by decide +kernel
theorem dX1_firstFalse_13 : decode cX1_firstFalse 13 = .ok (.getfield 19, 3) := by decide +kernel
theorem dX1_firstFalse_16 : decode cX1_firstFalse 16 = .ok (.iload_n 1, 1) := by decide +kernel
theorem dX1_firstFalse_17 : decode cX1_firstFalse 17 = .ok (.iaload, 1) := by decide +kernel
theorem dX1_firstFalse_18 : decode cX1_firstFalse 18 = .ok (.invokevirtual 56, 3) := by decide +kernel
theorem dX1_firstFalse_21 : decode cX1_firstFalse 21 = .ok (.ifCond .ne 5, 3) := by decide +kernel
theorem dX1_firstFalse_24 : decode cX1_firstFalse 24 = .ok (.iload_n 1, 1) := by decide +kernel
theorem dX1_firstFalse_25 : decode cX1_firstFalse 25 = .ok (.ireturn, 1) := by decide +kernel
theorem dX1_firstFalse_26 : decode cX1_firstFalse 26 = .ok (.aload_n 0, 1) := by decide +kernel
theorem dX1_firstFalse_27 : decode cX1_firstFalse 27 = .ok (.aload_n 0, 1) := by decide +kernel
theorem dX1_firstFalse_28 : decode cX1_firstFalse 28 = .ok (.getfield 19, 3) := by decide +kernel
theorem dX1_firstFalse_31 : decode cX1_firstFalse 31 = .ok (.iload_n 1, 1) := by decide +kernel
theorem dX1_firstFalse_32 : decode cX1_firstFalse 32 = .ok (.iaload, 1) := by decide +kernel
theorem dX1_firstFalse_33 : decode cX1_firstFalse 33 = .ok (.iconst 1, 1) := by decide +kernel
theorem dX1_firstFalse_34 : decode cX1_firstFalse 34 = .ok (.invokevirtual 60, 3) := by decide +kernel
theorem dX1_firstFalse_37 : decode cX1_firstFalse 37 = .ok (.iinc 1 1, 3) := by decide +kernel
theorem dX1_firstFalse_40 : decode cX1_firstFalse 40 = .ok (.goto (-38), 3) := by decide +kernel
theorem dX1_firstFalse_43 : decode cX1_firstFalse 43 = .ok (.bipush (-6), 2) := by decide +kernel
theorem dX1_firstFalse_45 : decode cX1_firstFalse 45 = .ok (.ireturn, 1) := by decide +kernel
theorem dX1_line_0 : decode cX1_line 0 = .ok (.iload_n 0, 1) := by decide +kernel
theorem dX1_line_1 : decode cX1_line 1 = .ok (.bipush 42, 2) := by decide +kernel
theorem dX1_line_3 : decode cX1_line 3 = .ok (.if_icmp .ne 6, 3) := by decide +kernel
theorem dX1_line_6 : decode cX1_line 6 = .ok (.bipush 7, 2) := by decide +kernel
theorem dX1_line_8 : decode cX1_line 8 = .ok (.ireturn, 1) := by decide +kernel
theorem dX1_line_9 : decode cX1_line 9 = .ok (.iload_n 0, 1) := by decide +kernel
theorem dX1_line_10 : decode cX1_line 10 = .ok (.invokestatic 67, 3) := by decide +kernel
theorem dX1_line_13 : decode cX1_line 13 = .ok (.ifCond .eq 10, 3) := by decide +kernel
theorem dX1_line_16 : decode cX1_line 16 = .ok (.iload_n 0, 1) := by decide +kernel
theorem dX1_line_17 : decode cX1_line 17 = .ok (.bipush 97, 2) := by decide +kernel
theorem dX1_line_19 : decode cX1_line 19 = .ok (.isub, 1) := by decide +kernel
theorem dX1_line_20 : decode cX1_line 20 = .ok (.goto 5, 3) := by decide +kernel
theorem dX1_line_23 : decode cX1_line 23 = .ok (.bipush 6, 2) := by decide +kernel
theorem dX1_line_25 : decode cX1_line 25 = .ok (.ireturn, 1) := by decide +kernel
theorem dX1_canSpeak_0 : decode cX1_canSpeak 0 = .ok (.iload_n 2, 1) := by decide +kernel
theorem dX1_canSpeak_1 : decode cX1_canSpeak 1 = .ok (.invokestatic 52, 3) := by decide +kernel
theorem dX1_canSpeak_4 : decode cX1_canSpeak 4 = .ok (.ifCond .eq 23, 3) := by decide +kernel
theorem dX1_canSpeak_7 : decode cX1_canSpeak 7 = .ok (.aload_n 0, 1) := by decide +kernel
theorem dX1_canSpeak_8 : decode cX1_canSpeak 8 = .ok (.getfield 22, 3) := by decide +kernel
theorem dX1_canSpeak_11 : decode cX1_canSpeak 11 = .ok (.iload_n 2, 1) := by decide +kernel
theorem dX1_canSpeak_12 : decode cX1_canSpeak 12 = .ok (.iaload, 1) := by decide +kernel
theorem dX1_canSpeak_13 : decode cX1_canSpeak 13 = .ok (.iload_n 1, 1) := by decide +kernel
theorem dX1_canSpeak_14 : decode cX1_canSpeak 14 = .ok (.iadd, 1) := by decide +kernel
theorem dX1_canSpeak_15 : decode cX1_canSpeak 15 = .ok (.iconst 2, 1) := by decide +kernel
theorem dX1_canSpeak_16 : decode cX1_canSpeak 16 = .ok (.aload_n 0, 1) := by decide +kernel
theorem dX1_canSpeak_17 : decode cX1_canSpeak 17 = .ok (.getfield 25, 3) := by decide +kernel
theorem dX1_canSpeak_20 : decode cX1_canSpeak 20 = .ok (.iload_n 2, 1) := by decide +kernel
theorem dX1_canSpeak_21 : decode cX1_canSpeak 21 = .ok (.iaload, 1) := by decide +kernel
theorem dX1_canSpeak_22 : decode cX1_canSpeak 22 = .ok (.imul, 1) := by decide +kernel
theorem dX1_canSpeak_23 : decode cX1_canSpeak 23 = .ok (.isub, 1) := by decide +kernel
theorem dX1_canSpeak_24 : decode cX1_canSpeak 24 = .ok (.ifCond .le 7, 3) := by decide +kernel
theorem dX1_canSpeak_27 : decode cX1_canSpeak 27 = .ok (.iconst 1, 1) := by decide +kernel
theorem dX1_canSpeak_28 : decode cX1_canSpeak 28 = .ok (.goto 4, 3) := by decide +kernel
theorem dX1_canSpeak_31 : decode cX1_canSpeak 31 = .ok (.iconst 0, 1) := by decide +kernel
theorem dX1_canSpeak_32 : decode cX1_canSpeak 32 = .ok (.ireturn, 1) := by decide +kernel
theorem dX1_count_0 : decode cX1_count 0 = .ok (.iload_n 1, 1) := by decide +kernel
theorem dX1_count_1 : decode cX1_count 1 = .ok (.invokestatic 52, 3) := by decide +kernel
theorem dX1_count_4 : decode cX1_count 4 = .ok (.ifCond .eq 13, 3) := by decide +kernel
theorem dX1_count_7 : decode cX1_count 7 = .ok (.aload_n 0, 1) := by decide +kernel
theorem dX1_count_8 : decode cX1_count 8 = .ok (.getfield 25, 3) := by decide +kernel
theorem dX1_count_11 : decode cX1_count 11 = .ok (.iload_n 1, 1) := by decide +kernel
theorem dX1_count_12 : decode cX1_count 12 = .ok (.dup2, 1) := by decide +kernel
theorem dX1_count_13 : decode cX1_count 13 = .ok (.iaload, 1) := by decide +kernel
theorem dX1_count_14 : decode cX1_count 14 = .ok (.iload_n 2, 1) := by decide +kernel
theorem dX1_count_15 : decode cX1_count 15 = .ok (.iadd, 1) := by decide +kernel
theorem dX1_count_16 : decode cX1_count 16 = .ok (.iastore, 1) := by decide +kernel
theorem dX1_count_17 : decode cX1_count 17 = .ok (.return_, 1) := by decide +kernel
theorem dX2_init_0 : decode cX2_init 0 = .ok (.aload_n 0, 1) := by decide +kernel
theorem dX2_init_1 : decode cX2_init 1 = .ok (.invokespecial 3, 3) := by decide +kernel
theorem dX2_init_4 : decode cX2_init 4 = .ok (.aload_n 0, 1) := by decide +kernel
theorem dX2_init_5 : decode cX2_init 5 = .ok (.iconst 4, 1) := by decide +kernel
theorem dX2_init_6 : decode cX2_init 6 = .ok (.bipush 6, 2) := by decide +kernel
theorem dX2_init_8 : decode cX2_init 8 = .ok (.multianewarray 9 2, 4) := by decide +kernel
theorem dX2_init_12 : decode cX2_init 12 = .ok (.putfield 11, 3) := by decide +kernel
theorem dX2_init_15 : decode cX2_init 15 = .ok (.aload_n 0, 1) := by decide +kernel
theorem dX2_init_16 : decode cX2_init 16 = .ok (.bipush 6, 2) := by decide +kernel
theorem dX2_init_18 : decode cX2_init 18 = .ok (.bipush 6, 2) := by decide +kernel
theorem dX2_init_20 : decode cX2_init 20 = .ok (.multianewarray 9 2, 4) := by decide +kernel
theorem dX2_init_24 : decode cX2_init 24 = .ok (.putfield 16, 3) := by decide +kernel
