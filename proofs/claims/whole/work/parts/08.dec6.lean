theorem dX8_layLine_61 : decode cX8_layLine 61 = .ok (.iadd, 1) := by decide +kernel
theorem dX8_layLine_62 : decode cX8_layLine 62 = .ok (.iastore, 1) := by decide +kernel
theorem dX8_layLine_63 : decode cX8_layLine 63 = .ok (.iload_n 2, 1) := by decide +kernel
theorem dX8_layLine_64 : decode cX8_layLine 64 = .ok (.bipush 7, 2) := by decide +kernel
theorem dX8_layLine_66 : decode cX8_layLine 66 = .ok (.idiv, 1) := by decide +kernel
theorem dX8_layLine_67 : decode cX8_layLine 67 = .ok (.istore_n 2, 1) := by decide +kernel
theorem dX8_layLine_68 : decode cX8_layLine 68 = .ok (.iinc 3 (-1), 3) := by decide +kernel
theorem dX8_layLine_71 : decode cX8_layLine 71 = .ok (.goto (-62), 3) := by decide +kernel
theorem dX8_layLine_74 : decode cX8_layLine 74 = .ok (.iload_n 2, 1) := by decide +kernel
theorem dX8_layLine_75 : decode cX8_layLine 75 = .ok (.ireturn, 1) := by decide +kernel
theorem dX8_holds_0 : decode cX8_holds 0 = .ok (.iconst 0, 1) := by decide +kernel
theorem dX8_holds_1 : decode cX8_holds 1 = .ok (.istore_n 1, 1) := by decide +kernel
theorem dX8_holds_2 : decode cX8_holds 2 = .ok (.iload_n 1, 1) := by decide +kernel
theorem dX8_holds_3 : decode cX8_holds 3 = .ok (.bipush 6, 2) := by decide +kernel
theorem dX8_holds_5 : decode cX8_holds 5 = .ok (.if_icmp .ge 23, 3) := by decide +kernel
theorem dX8_holds_8 : decode cX8_holds 8 = .ok (.aload_n 0, 1) := by decide +kernel
theorem dX8_holds_9 : decode cX8_holds 9 = .ok (.getfield 53, 3) := by decide +kernel
theorem dX8_holds_12 : decode cX8_holds 12 = .ok (.iload_n 1, 1) := by decide +kernel
theorem dX8_holds_13 : decode cX8_holds 13 = .ok (.aload_n 0, 1) := by decide +kernel
theorem dX8_holds_14 : decode cX8_holds 14 = .ok (.getfield 7, 3) := by decide +kernel
theorem dX8_holds_17 : decode cX8_holds 17 = .ok (.iconst 4, 1) := by decide +kernel
theorem dX8_holds_18 : decode cX8_holds 18 = .ok (.iload_n 1, 1) := by decide +kernel
theorem dX8_holds_19 : decode cX8_holds 19 = .ok (.imul, 1) := by decide +kernel
theorem dX8_holds_20 : decode cX8_holds 20 = .ok (.iaload, 1) := by decide +kernel
theorem dX8_holds_21 : decode cX8_holds 21 = .ok (.iastore, 1) := by decide +kernel
theorem dX8_holds_22 : decode cX8_holds 22 = .ok (.iinc 1 1, 3) := by decide +kernel
theorem dX8_holds_25 : decode cX8_holds 25 = .ok (.goto (-23), 3) := by decide +kernel
theorem dX8_holds_28 : decode cX8_holds 28 = .ok (.iconst 0, 1) := by decide +kernel
theorem dX8_holds_29 : decode cX8_holds 29 = .ok (.istore_n 1, 1) := by decide +kernel
theorem dX8_holds_30 : decode cX8_holds 30 = .ok (.iload_n 1, 1) := by decide +kernel
theorem dX8_holds_31 : decode cX8_holds 31 = .ok (.aload_n 0, 1) := by decide +kernel
theorem dX8_holds_32 : decode cX8_holds 32 = .ok (.getfield 75, 3) := by decide +kernel
theorem dX8_holds_35 : decode cX8_holds 35 = .ok (.if_icmp .ge 83, 3) := by decide +kernel
theorem dX8_holds_38 : decode cX8_holds 38 = .ok (.aload_n 0, 1) := by decide +kernel
theorem dX8_holds_39 : decode cX8_holds 39 = .ok (.getfield 50, 3) := by decide +kernel
theorem dX8_holds_42 : decode cX8_holds 42 = .ok (.iload_n 1, 1) := by decide +kernel
theorem dX8_holds_43 : decode cX8_holds 43 = .ok (.iaload, 1) := by decide +kernel
theorem dX8_holds_44 : decode cX8_holds 44 = .ok (.bipush 46, 2) := by decide +kernel
theorem dX8_holds_46 : decode cX8_holds 46 = .ok (.if_icmp .ne 8, 3) := by decide +kernel
theorem dX8_holds_49 : decode cX8_holds 49 = .ok (.bipush (-6), 2) := by decide +kernel
theorem dX8_holds_51 : decode cX8_holds 51 = .ok (.goto 12, 3) := by decide +kernel
theorem dX8_holds_54 : decode cX8_holds 54 = .ok (.aload_n 0, 1) := by decide +kernel
theorem dX8_holds_55 : decode cX8_holds 55 = .ok (.getfield 50, 3) := by decide +kernel
theorem dX8_holds_58 : decode cX8_holds 58 = .ok (.iload_n 1, 1) := by decide +kernel
theorem dX8_holds_59 : decode cX8_holds 59 = .ok (.iaload, 1) := by decide +kernel
theorem dX8_holds_60 : decode cX8_holds 60 = .ok (.bipush 97, 2) := by decide +kernel
theorem dX8_holds_62 : decode cX8_holds 62 = .ok (.isub, 1) := by decide +kernel
theorem dX8_holds_63 : decode cX8_holds 63 = .ok (.istore_n 2, 1) := by decide +kernel
theorem dX8_holds_64 : decode cX8_holds 64 = .ok (.iload_n 2, 1) := by decide +kernel
theorem dX8_holds_65 : decode cX8_holds 65 = .ok (.ifCond .lt 14, 3) := by decide +kernel
theorem dX8_holds_68 : decode cX8_holds 68 = .ok (.aload_n 0, 1) := by decide +kernel
theorem dX8_holds_69 : decode cX8_holds 69 = .ok (.getfield 53, 3) := by decide +kernel
theorem dX8_holds_72 : decode cX8_holds 72 = .ok (.iload_n 2, 1) := by decide +kernel
theorem dX8_holds_73 : decode cX8_holds 73 = .ok (.iaload, 1) := by decide +kernel
theorem dX8_holds_74 : decode cX8_holds 74 = .ok (.ifCond .ne 5, 3) := by decide +kernel
theorem dX8_holds_77 : decode cX8_holds 77 = .ok (.iload_n 1, 1) := by decide +kernel
theorem dX8_holds_78 : decode cX8_holds 78 = .ok (.ireturn, 1) := by decide +kernel
theorem dX8_holds_79 : decode cX8_holds 79 = .ok (.iconst 0, 1) := by decide +kernel
theorem dX8_holds_80 : decode cX8_holds 80 = .ok (.istore_n 3, 1) := by decide +kernel
theorem dX8_holds_81 : decode cX8_holds 81 = .ok (.iload_n 3, 1) := by decide +kernel
theorem dX8_holds_82 : decode cX8_holds 82 = .ok (.bipush 6, 2) := by decide +kernel
theorem dX8_holds_84 : decode cX8_holds 84 = .ok (.if_icmp .ge 28, 3) := by decide +kernel
theorem dX8_holds_87 : decode cX8_holds 87 = .ok (.aload_n 0, 1) := by decide +kernel
theorem dX8_holds_88 : decode cX8_holds 88 = .ok (.getfield 53, 3) := by decide +kernel
theorem dX8_holds_91 : decode cX8_holds 91 = .ok (.iload_n 3, 1) := by decide +kernel
theorem dX8_holds_92 : decode cX8_holds 92 = .ok (.dup2, 1) := by decide +kernel
theorem dX8_holds_93 : decode cX8_holds 93 = .ok (.iaload, 1) := by decide +kernel
theorem dX8_holds_94 : decode cX8_holds 94 = .ok (.iload_n 3, 1) := by decide +kernel
theorem dX8_holds_95 : decode cX8_holds 95 = .ok (.iload_n 2, 1) := by decide +kernel
theorem dX8_holds_96 : decode cX8_holds 96 = .ok (.if_icmp .ne 7, 3) := by decide +kernel
theorem dX8_holds_99 : decode cX8_holds 99 = .ok (.iconst (-1), 1) := by decide +kernel
theorem dX8_holds_100 : decode cX8_holds 100 = .ok (.goto 4, 3) := by decide +kernel
theorem dX8_holds_103 : decode cX8_holds 103 = .ok (.iconst 1, 1) := by decide +kernel
theorem dX8_holds_104 : decode cX8_holds 104 = .ok (.iadd, 1) := by decide +kernel
theorem dX8_holds_105 : decode cX8_holds 105 = .ok (.iastore, 1) := by decide +kernel
theorem dX8_holds_106 : decode cX8_holds 106 = .ok (.iinc 3 1, 3) := by decide +kernel
theorem dX8_holds_109 : decode cX8_holds 109 = .ok (.goto (-28), 3) := by decide +kernel
theorem dX8_holds_112 : decode cX8_holds 112 = .ok (.iinc 1 1, 3) := by decide +kernel
theorem dX8_holds_115 : decode cX8_holds 115 = .ok (.goto (-85), 3) := by decide +kernel
theorem dX8_holds_118 : decode cX8_holds 118 = .ok (.aload_n 0, 1) := by decide +kernel
theorem dX8_holds_119 : decode cX8_holds 119 = .ok (.getfield 75, 3) := by decide +kernel
theorem dX8_holds_122 : decode cX8_holds 122 = .ok (.ireturn, 1) := by decide +kernel
theorem dX8_filled_0 : decode cX8_filled 0 = .ok (.aload_n 0, 1) := by decide +kernel
theorem dX8_filled_1 : decode cX8_filled 1 = .ok (.invokevirtual 88, 3) := by decide +kernel
theorem dX8_filled_4 : decode cX8_filled 4 = .ok (.ifCond .lt 6, 3) := by decide +kernel
theorem dX8_filled_7 : decode cX8_filled 7 = .ok (.bipush (-5), 2) := by decide +kernel
theorem dX8_filled_9 : decode cX8_filled 9 = .ok (.ireturn, 1) := by decide +kernel
theorem dX8_filled_10 : decode cX8_filled 10 = .ok (.iconst 0, 1) := by decide +kernel
theorem dX8_filled_11 : decode cX8_filled 11 = .ok (.istore_n 3, 1) := by decide +kernel
theorem dX8_filled_12 : decode cX8_filled 12 = .ok (.iconst 0, 1) := by decide +kernel
theorem dX8_filled_13 : decode cX8_filled 13 = .ok (.istore 4, 2) := by decide +kernel
theorem dX8_filled_15 : decode cX8_filled 15 = .ok (.aload_n 0, 1) := by decide +kernel
theorem dX8_filled_16 : decode cX8_filled 16 = .ok (.iload 4, 2) := by decide +kernel
theorem dX8_filled_18 : decode cX8_filled 18 = .ok (.invokevirtual 142, 3) := by decide +kernel
theorem dX8_filled_21 : decode cX8_filled 21 = .ok (.ifCond .ne 54, 3) := by decide +kernel
theorem dX8_filled_24 : decode cX8_filled 24 = .ok (.aload_n 0, 1) := by decide +kernel
theorem dX8_filled_25 : decode cX8_filled 25 = .ok (.invokevirtual 145, 3) := by decide +kernel
theorem dX8_filled_28 : decode cX8_filled 28 = .ok (.aload_n 0, 1) := by decide +kernel
theorem dX8_filled_29 : decode cX8_filled 29 = .ok (.getfield 75, 3) := by decide +kernel
theorem dX8_filled_32 : decode cX8_filled 32 = .ok (.if_icmp .ne 37, 3) := by decide +kernel
theorem dX8_filled_35 : decode cX8_filled 35 = .ok (.iload_n 3, 1) := by decide +kernel
theorem dX8_filled_36 : decode cX8_filled 36 = .ok (.iload_n 1, 1) := by decide +kernel
theorem dX8_filled_37 : decode cX8_filled 37 = .ok (.if_icmp .ne 29, 3) := by decide +kernel
theorem dX8_filled_40 : decode cX8_filled 40 = .ok (.iload_n 2, 1) := by decide +kernel
theorem dX8_filled_41 : decode cX8_filled 41 = .ok (.iconst 0, 1) := by decide +kernel
theorem dX8_filled_42 : decode cX8_filled 42 = .ok (.aload_n 0, 1) := by decide +kernel
theorem dX8_filled_43 : decode cX8_filled 43 = .ok (.getfield 75, 3) := by decide +kernel
theorem dX8_filled_46 : decode cX8_filled 46 = .ok (.iconst 1, 1) := by decide +kernel
theorem dX8_filled_47 : decode cX8_filled 47 = .ok (.isub, 1) := by decide +kernel
theorem dX8_filled_48 : decode cX8_filled 48 = .ok (.invokestatic 63, 3) := by decide +kernel
theorem dX8_filled_51 : decode cX8_filled 51 = .ok (.ifCond .eq 12, 3) := by decide +kernel
theorem dX8_filled_54 : decode cX8_filled 54 = .ok (.aload_n 0, 1) := by decide +kernel
theorem dX8_filled_55 : decode cX8_filled 55 = .ok (.getfield 50, 3) := by decide +kernel
theorem dX8_filled_58 : decode cX8_filled 58 = .ok (.iload_n 2, 1) := by decide +kernel
theorem dX8_filled_59 : decode cX8_filled 59 = .ok (.iaload, 1) := by decide +kernel
theorem dX8_filled_60 : decode cX8_filled 60 = .ok (.goto 5, 3) := by decide +kernel
theorem dX8_filled_63 : decode cX8_filled 63 = .ok (.bipush (-6), 2) := by decide +kernel
theorem dX8_filled_65 : decode cX8_filled 65 = .ok (.ireturn, 1) := by decide +kernel
theorem dX8_filled_66 : decode cX8_filled 66 = .ok (.iinc 3 1, 3) := by decide +kernel
theorem dX8_filled_69 : decode cX8_filled 69 = .ok (.iinc 4 1, 3) := by decide +kernel
theorem dX8_filled_72 : decode cX8_filled 72 = .ok (.goto (-57), 3) := by decide +kernel
theorem dX8_filled_75 : decode cX8_filled 75 = .ok (.iload_n 1, 1) := by decide +kernel
theorem dX8_filled_76 : decode cX8_filled 76 = .ok (.iconst (-1), 1) := by decide +kernel
theorem dX8_filled_77 : decode cX8_filled 77 = .ok (.if_icmp .ne 7, 3) := by decide +kernel
theorem dX8_filled_80 : decode cX8_filled 80 = .ok (.iload_n 3, 1) := by decide +kernel
theorem dX8_filled_81 : decode cX8_filled 81 = .ok (.goto 5, 3) := by decide +kernel
theorem dX8_filled_84 : decode cX8_filled 84 = .ok (.bipush (-6), 2) := by decide +kernel
theorem dX8_filled_86 : decode cX8_filled 86 = .ok (.ireturn, 1) := by decide +kernel
theorem dX8_lie_0 : decode cX8_lie 0 = .ok (.aload_n 0, 1) := by decide +kernel
theorem dX8_lie_1 : decode cX8_lie 1 = .ok (.invokevirtual 88, 3) := by decide +kernel
theorem dX8_lie_4 : decode cX8_lie 4 = .ok (.ifCond .lt 6, 3) := by decide +kernel
theorem dX8_lie_7 : decode cX8_lie 7 = .ok (.bipush (-5), 2) := by decide +kernel
theorem dX8_lie_9 : decode cX8_lie 9 = .ok (.ireturn, 1) := by decide +kernel
theorem dX8_lie_10 : decode cX8_lie 10 = .ok (.iconst 0, 1) := by decide +kernel
theorem dX8_lie_11 : decode cX8_lie 11 = .ok (.istore_n 1, 1) := by decide +kernel
theorem dX8_lie_12 : decode cX8_lie 12 = .ok (.iconst 0, 1) := by decide +kernel
theorem dX8_lie_13 : decode cX8_lie 13 = .ok (.istore_n 2, 1) := by decide +kernel
theorem dX8_lie_14 : decode cX8_lie 14 = .ok (.aload_n 0, 1) := by decide +kernel
theorem dX8_lie_15 : decode cX8_lie 15 = .ok (.iload_n 2, 1) := by decide +kernel
theorem dX8_lie_16 : decode cX8_lie 16 = .ok (.invokevirtual 142, 3) := by decide +kernel
theorem dX8_lie_19 : decode cX8_lie 19 = .ok (.ifCond .ne 25, 3) := by decide +kernel
theorem dX8_lie_22 : decode cX8_lie 22 = .ok (.aload_n 0, 1) := by decide +kernel
theorem dX8_lie_23 : decode cX8_lie 23 = .ok (.invokevirtual 145, 3) := by decide +kernel
theorem dX8_lie_26 : decode cX8_lie 26 = .ok (.istore_n 3, 1) := by decide +kernel
theorem dX8_lie_27 : decode cX8_lie 27 = .ok (.iload_n 3, 1) := by decide +kernel
theorem dX8_lie_28 : decode cX8_lie 28 = .ok (.iload_n 1, 1) := by decide +kernel
theorem dX8_lie_29 : decode cX8_lie 29 = .ok (.if_icmp .le 7, 3) := by decide +kernel
theorem dX8_lie_32 : decode cX8_lie 32 = .ok (.iload_n 3, 1) := by decide +kernel
theorem dX8_lie_33 : decode cX8_lie 33 = .ok (.goto 4, 3) := by decide +kernel
theorem dX8_lie_36 : decode cX8_lie 36 = .ok (.iload_n 1, 1) := by decide +kernel
theorem dX8_lie_37 : decode cX8_lie 37 = .ok (.istore_n 1, 1) := by decide +kernel
theorem dX8_lie_38 : decode cX8_lie 38 = .ok (.iinc 2 1, 3) := by decide +kernel
theorem dX8_lie_41 : decode cX8_lie 41 = .ok (.goto (-27), 3) := by decide +kernel
theorem dX8_lie_44 : decode cX8_lie 44 = .ok (.iload_n 1, 1) := by decide +kernel
theorem dX8_lie_45 : decode cX8_lie 45 = .ok (.aload_n 0, 1) := by decide +kernel
theorem dX8_lie_46 : decode cX8_lie 46 = .ok (.getfield 75, 3) := by decide +kernel
theorem dX8_lie_49 : decode cX8_lie 49 = .ok (.if_icmp .ne 8, 3) := by decide +kernel
theorem dX8_lie_52 : decode cX8_lie 52 = .ok (.bipush (-6), 2) := by decide +kernel
theorem dX8_lie_54 : decode cX8_lie 54 = .ok (.goto 4, 3) := by decide +kernel
theorem dX8_lie_57 : decode cX8_lie 57 = .ok (.iload_n 1, 1) := by decide +kernel
theorem dX8_lie_58 : decode cX8_lie 58 = .ok (.ireturn, 1) := by decide +kernel
theorem dX8_floorOf_0 : decode cX8_floorOf 0 = .ok (.iconst 0, 1) := by decide +kernel
theorem dX8_floorOf_1 : decode cX8_floorOf 1 = .ok (.istore_n 2, 1) := by decide +kernel
theorem dX8_floorOf_2 : decode cX8_floorOf 2 = .ok (.iconst 0, 1) := by decide +kernel
theorem dX8_floorOf_3 : decode cX8_floorOf 3 = .ok (.istore_n 3, 1) := by decide +kernel
theorem dX8_floorOf_4 : decode cX8_floorOf 4 = .ok (.iconst 0, 1) := by decide +kernel
theorem dX8_floorOf_5 : decode cX8_floorOf 5 = .ok (.istore 4, 2) := by decide +kernel
theorem dX8_floorOf_7 : decode cX8_floorOf 7 = .ok (.iload 4, 2) := by decide +kernel
theorem dX8_floorOf_9 : decode cX8_floorOf 9 = .ok (.bipush 6, 2) := by decide +kernel
theorem dX8_floorOf_11 : decode cX8_floorOf 11 = .ok (.if_icmp .ge 60, 3) := by decide +kernel
theorem dX8_floorOf_14 : decode cX8_floorOf 14 = .ok (.iload_n 1, 1) := by decide +kernel
theorem dX8_floorOf_15 : decode cX8_floorOf 15 = .ok (.iload 4, 2) := by decide +kernel
theorem dX8_floorOf_17 : decode cX8_floorOf 17 = .ok (.ishr, 1) := by decide +kernel
theorem dX8_floorOf_18 : decode cX8_floorOf 18 = .ok (.iconst 1, 1) := by decide +kernel
theorem dX8_floorOf_19 : decode cX8_floorOf 19 = .ok (.iand, 1) := by decide +kernel
theorem dX8_floorOf_20 : decode cX8_floorOf 20 = .ok (.iconst 1, 1) := by decide +kernel
theorem dX8_floorOf_21 : decode cX8_floorOf 21 = .ok (.if_icmp .ne 7, 3) := by decide +kernel
theorem dX8_floorOf_24 : decode cX8_floorOf 24 = .ok (.iconst 1, 1) := by decide +kernel
theorem dX8_floorOf_25 : decode cX8_floorOf 25 = .ok (.goto 4, 3) := by decide +kernel
theorem dX8_floorOf_28 : decode cX8_floorOf 28 = .ok (.iconst 0, 1) := by decide +kernel
theorem dX8_floorOf_29 : decode cX8_floorOf 29 = .ok (.istore 5, 2) := by decide +kernel
theorem dX8_floorOf_31 : decode cX8_floorOf 31 = .ok (.iload_n 2, 1) := by decide +kernel
theorem dX8_floorOf_32 : decode cX8_floorOf 32 = .ok (.iload 5, 2) := by decide +kernel
theorem dX8_floorOf_34 : decode cX8_floorOf 34 = .ok (.ifCond .eq 7, 3) := by decide +kernel
theorem dX8_floorOf_37 : decode cX8_floorOf 37 = .ok (.iconst 1, 1) := by decide +kernel
theorem dX8_floorOf_38 : decode cX8_floorOf 38 = .ok (.goto 4, 3) := by decide +kernel
theorem dX8_floorOf_41 : decode cX8_floorOf 41 = .ok (.iconst 0, 1) := by decide +kernel
theorem dX8_floorOf_42 : decode cX8_floorOf 42 = .ok (.iadd, 1) := by decide +kernel
theorem dX8_floorOf_43 : decode cX8_floorOf 43 = .ok (.istore_n 2, 1) := by decide +kernel
theorem dX8_floorOf_44 : decode cX8_floorOf 44 = .ok (.iload_n 3, 1) := by decide +kernel
theorem dX8_floorOf_45 : decode cX8_floorOf 45 = .ok (.iload 5, 2) := by decide +kernel
theorem dX8_floorOf_47 : decode cX8_floorOf 47 = .ok (.ifCond .eq 15, 3) := by decide +kernel
theorem dX8_floorOf_50 : decode cX8_floorOf 50 = .ok (.aload_n 0, 1) := by decide +kernel
theorem dX8_floorOf_51 : decode cX8_floorOf 51 = .ok (.getfield 7, 3) := by decide +kernel
theorem dX8_floorOf_54 : decode cX8_floorOf 54 = .ok (.iconst 4, 1) := by decide +kernel
theorem dX8_floorOf_55 : decode cX8_floorOf 55 = .ok (.iload 4, 2) := by decide +kernel
theorem dX8_floorOf_57 : decode cX8_floorOf 57 = .ok (.imul, 1) := by decide +kernel
theorem dX8_floorOf_58 : decode cX8_floorOf 58 = .ok (.iaload, 1) := by decide +kernel
theorem dX8_floorOf_59 : decode cX8_floorOf 59 = .ok (.goto 4, 3) := by decide +kernel
theorem dX8_floorOf_62 : decode cX8_floorOf 62 = .ok (.iconst 0, 1) := by decide +kernel
theorem dX8_floorOf_63 : decode cX8_floorOf 63 = .ok (.iadd, 1) := by decide +kernel
theorem dX8_floorOf_64 : decode cX8_floorOf 64 = .ok (.istore_n 3, 1) := by decide +kernel
theorem dX8_floorOf_65 : decode cX8_floorOf 65 = .ok (.iinc 4 1, 3) := by decide +kernel
theorem dX8_floorOf_68 : decode cX8_floorOf 68 = .ok (.goto (-61), 3) := by decide +kernel
theorem dX8_floorOf_71 : decode cX8_floorOf 71 = .ok (.iload_n 2, 1) := by decide +kernel
theorem dX8_floorOf_72 : decode cX8_floorOf 72 = .ok (.iconst 1, 1) := by decide +kernel
theorem dX8_floorOf_73 : decode cX8_floorOf 73 = .ok (.if_icmp .le 12, 3) := by decide +kernel
theorem dX8_floorOf_76 : decode cX8_floorOf 76 = .ok (.iload_n 3, 1) := by decide +kernel
theorem dX8_floorOf_77 : decode cX8_floorOf 77 = .ok (.ifCond .le 8, 3) := by decide +kernel
theorem dX8_floorOf_80 : decode cX8_floorOf 80 = .ok (.ldc 148, 2) := by decide +kernel
theorem dX8_floorOf_82 : decode cX8_floorOf 82 = .ok (.goto 4, 3) := by decide +kernel
theorem dX8_floorOf_85 : decode cX8_floorOf 85 = .ok (.iload_n 3, 1) := by decide +kernel
theorem dX8_floorOf_86 : decode cX8_floorOf 86 = .ok (.ireturn, 1) := by decide +kernel
theorem dX8_floor_0 : decode cX8_floor 0 = .ok (.iload_n 1, 1) := by decide +kernel
theorem dX8_floor_1 : decode cX8_floor 1 = .ok (.iconst 0, 1) := by decide +kernel
theorem dX8_floor_2 : decode cX8_floor 2 = .ok (.bipush 63, 2) := by decide +kernel
theorem dX8_floor_4 : decode cX8_floor 4 = .ok (.invokestatic 63, 3) := by decide +kernel
theorem dX8_floor_7 : decode cX8_floor 7 = .ok (.ifCond .eq 11, 3) := by decide +kernel
theorem dX8_floor_10 : decode cX8_floor 10 = .ok (.aload_n 0, 1) := by decide +kernel
theorem dX8_floor_11 : decode cX8_floor 11 = .ok (.iload_n 1, 1) := by decide +kernel
theorem dX8_floor_12 : decode cX8_floor 12 = .ok (.invokevirtual 149, 3) := by decide +kernel
theorem dX8_floor_15 : decode cX8_floor 15 = .ok (.goto 5, 3) := by decide +kernel
theorem dX8_floor_18 : decode cX8_floor 18 = .ok (.bipush (-2), 2) := by decide +kernel
theorem dX8_floor_20 : decode cX8_floor 20 = .ok (.ireturn, 1) := by decide +kernel
theorem dX8_bits_0 : decode cX8_bits 0 = .ok (.iconst 0, 1) := by decide +kernel
theorem dX8_bits_1 : decode cX8_bits 1 = .ok (.istore_n 1, 1) := by decide +kernel
theorem dX8_bits_2 : decode cX8_bits 2 = .ok (.iconst 0, 1) := by decide +kernel
theorem dX8_bits_3 : decode cX8_bits 3 = .ok (.istore_n 2, 1) := by decide +kernel
theorem dX8_bits_4 : decode cX8_bits 4 = .ok (.iload_n 2, 1) := by decide +kernel
theorem dX8_bits_5 : decode cX8_bits 5 = .ok (.bipush 6, 2) := by decide +kernel
theorem dX8_bits_7 : decode cX8_bits 7 = .ok (.if_icmp .ge 17, 3) := by decide +kernel
theorem dX8_bits_10 : decode cX8_bits 10 = .ok (.iload_n 1, 1) := by decide +kernel
theorem dX8_bits_11 : decode cX8_bits 11 = .ok (.iload_n 0, 1) := by decide +kernel
theorem dX8_bits_12 : decode cX8_bits 12 = .ok (.iload_n 2, 1) := by decide +kernel
theorem dX8_bits_13 : decode cX8_bits 13 = .ok (.ishr, 1) := by decide +kernel
theorem dX8_bits_14 : decode cX8_bits 14 = .ok (.iconst 1, 1) := by decide +kernel
theorem dX8_bits_15 : decode cX8_bits 15 = .ok (.iand, 1) := by decide +kernel
theorem dX8_bits_16 : decode cX8_bits 16 = .ok (.iadd, 1) := by decide +kernel
theorem dX8_bits_17 : decode cX8_bits 17 = .ok (.istore_n 1, 1) := by decide +kernel
theorem dX8_bits_18 : decode cX8_bits 18 = .ok (.iinc 2 1, 3) := by decide +kernel
theorem dX8_bits_21 : decode cX8_bits 21 = .ok (.goto (-17), 3) := by decide +kernel
theorem dX8_bits_24 : decode cX8_bits 24 = .ok (.iload_n 1, 1) := by decide +kernel
theorem dX8_bits_25 : decode cX8_bits 25 = .ok (.ireturn, 1) := by decide +kernel
theorem dX8_friends_0 : decode cX8_friends 0 = .ok (.iload_n 1, 1) := by decide +kernel
theorem dX8_friends_1 : decode cX8_friends 1 = .ok (.invokestatic 67, 3) := by decide +kernel
theorem dX8_friends_4 : decode cX8_friends 4 = .ok (.ifCond .ne 5, 3) := by decide +kernel
theorem dX8_friends_7 : decode cX8_friends 7 = .ok (.iconst (-1), 1) := by decide +kernel
theorem dX8_friends_8 : decode cX8_friends 8 = .ok (.ireturn, 1) := by decide +kernel
theorem dX8_friends_9 : decode cX8_friends 9 = .ok (.iload_n 2, 1) := by decide +kernel
theorem dX8_friends_10 : decode cX8_friends 10 = .ok (.iconst 0, 1) := by decide +kernel
theorem dX8_friends_11 : decode cX8_friends 11 = .ok (.sipush 999, 3) := by decide +kernel
theorem dX8_friends_14 : decode cX8_friends 14 = .ok (.invokestatic 63, 3) := by decide +kernel
theorem dX8_friends_17 : decode cX8_friends 17 = .ok (.ifCond .ne 6, 3) := by decide +kernel
theorem dX8_friends_20 : decode cX8_friends 20 = .ok (.bipush (-2), 2) := by decide +kernel
theorem dX8_friends_22 : decode cX8_friends 22 = .ok (.ireturn, 1) := by decide +kernel
theorem dX8_friends_23 : decode cX8_friends 23 = .ok (.bipush (-6), 2) := by decide +kernel
theorem dX8_friends_25 : decode cX8_friends 25 = .ok (.istore_n 3, 1) := by decide +kernel
theorem dX8_friends_26 : decode cX8_friends 26 = .ok (.iconst 1, 1) := by decide +kernel
theorem dX8_friends_27 : decode cX8_friends 27 = .ok (.istore 4, 2) := by decide +kernel
theorem dX8_friends_29 : decode cX8_friends 29 = .ok (.iload 4, 2) := by decide +kernel
theorem dX8_friends_31 : decode cX8_friends 31 = .ok (.bipush 64, 2) := by decide +kernel
theorem dX8_friends_33 : decode cX8_friends 33 = .ok (.if_icmp .ge 64, 3) := by decide +kernel
theorem dX8_friends_36 : decode cX8_friends 36 = .ok (.iload_n 3, 1) := by decide +kernel
theorem dX8_friends_37 : decode cX8_friends 37 = .ok (.ifCond .lt 15, 3) := by decide +kernel
theorem dX8_friends_40 : decode cX8_friends 40 = .ok (.iload 4, 2) := by decide +kernel
theorem dX8_friends_42 : decode cX8_friends 42 = .ok (.invokestatic 152, 3) := by decide +kernel
theorem dX8_friends_45 : decode cX8_friends 45 = .ok (.iload_n 3, 1) := by decide +kernel
theorem dX8_friends_46 : decode cX8_friends 46 = .ok (.invokestatic 152, 3) := by decide +kernel
theorem dX8_friends_49 : decode cX8_friends 49 = .ok (.if_icmp .ge 7, 3) := by decide +kernel
theorem dX8_friends_52 : decode cX8_friends 52 = .ok (.iconst 1, 1) := by decide +kernel
theorem dX8_friends_53 : decode cX8_friends 53 = .ok (.goto 4, 3) := by decide +kernel
theorem dX8_friends_56 : decode cX8_friends 56 = .ok (.iconst 0, 1) := by decide +kernel
theorem dX8_friends_57 : decode cX8_friends 57 = .ok (.istore 5, 2) := by decide +kernel
theorem dX8_friends_59 : decode cX8_friends 59 = .ok (.iload 4, 2) := by decide +kernel
theorem dX8_friends_61 : decode cX8_friends 61 = .ok (.iload_n 1, 1) := by decide +kernel
theorem dX8_friends_62 : decode cX8_friends 62 = .ok (.ishr, 1) := by decide +kernel
theorem dX8_friends_63 : decode cX8_friends 63 = .ok (.iconst 1, 1) := by decide +kernel
theorem dX8_friends_64 : decode cX8_friends 64 = .ok (.iand, 1) := by decide +kernel
theorem dX8_friends_65 : decode cX8_friends 65 = .ok (.iconst 1, 1) := by decide +kernel
theorem dX8_friends_66 : decode cX8_friends 66 = .ok (.if_icmp .ne 23, 3) := by decide +kernel
theorem dX8_friends_69 : decode cX8_friends 69 = .ok (.iload 5, 2) := by decide +kernel
theorem dX8_friends_71 : decode cX8_friends 71 = .ok (.ifCond .eq 18, 3) := by decide +kernel
theorem dX8_friends_74 : decode cX8_friends 74 = .ok (.aload_n 0, 1) := by decide +kernel
theorem dX8_friends_75 : decode cX8_friends 75 = .ok (.iload 4, 2) := by decide +kernel
theorem dX8_friends_77 : decode cX8_friends 77 = .ok (.invokevirtual 149, 3) := by decide +kernel
theorem dX8_friends_80 : decode cX8_friends 80 = .ok (.iload_n 2, 1) := by decide +kernel
theorem dX8_friends_81 : decode cX8_friends 81 = .ok (.if_icmp .lt 8, 3) := by decide +kernel
theorem dX8_friends_84 : decode cX8_friends 84 = .ok (.iload 4, 2) := by decide +kernel
theorem dX8_friends_86 : decode cX8_friends 86 = .ok (.goto 4, 3) := by decide +kernel
theorem dX8_friends_89 : decode cX8_friends 89 = .ok (.iload_n 3, 1) := by decide +kernel
theorem dX8_friends_90 : decode cX8_friends 90 = .ok (.istore_n 3, 1) := by decide +kernel
theorem dX8_friends_91 : decode cX8_friends 91 = .ok (.iinc 4 1, 3) := by decide +kernel
theorem dX8_friends_94 : decode cX8_friends 94 = .ok (.goto (-65), 3) := by decide +kernel
theorem dX8_friends_97 : decode cX8_friends 97 = .ok (.iload_n 3, 1) := by decide +kernel
theorem dX8_friends_98 : decode cX8_friends 98 = .ok (.ireturn, 1) := by decide +kernel
theorem dX8_image_0 : decode cX8_image 0 = .ok (.iload_n 1, 1) := by decide +kernel
theorem dX8_image_1 : decode cX8_image 1 = .ok (.iconst 0, 1) := by decide +kernel
theorem dX8_image_2 : decode cX8_image 2 = .ok (.iconst 1, 1) := by decide +kernel
theorem dX8_image_3 : decode cX8_image 3 = .ok (.invokestatic 63, 3) := by decide +kernel
theorem dX8_image_6 : decode cX8_image 6 = .ok (.ifCond .ne 6, 3) := by decide +kernel
theorem dX8_image_9 : decode cX8_image 9 = .ok (.bipush (-2), 2) := by decide +kernel
theorem dX8_image_11 : decode cX8_image 11 = .ok (.ireturn, 1) := by decide +kernel
theorem dX8_image_12 : decode cX8_image 12 = .ok (.bipush 88, 2) := by decide +kernel
theorem dX8_image_14 : decode cX8_image 14 = .ok (.iload_n 1, 1) := by decide +kernel
theorem dX8_image_15 : decode cX8_image 15 = .ok (.imul, 1) := by decide +kernel
theorem dX8_image_16 : decode cX8_image 16 = .ok (.istore_n 2, 1) := by decide +kernel
theorem dX8_image_17 : decode cX8_image 17 = .ok (.iconst 0, 1) := by decide +kernel
theorem dX8_image_18 : decode cX8_image 18 = .ok (.istore_n 3, 1) := by decide +kernel
theorem dX8_image_19 : decode cX8_image 19 = .ok (.iload_n 3, 1) := by decide +kernel
theorem dX8_image_20 : decode cX8_image 20 = .ok (.bipush 24, 2) := by decide +kernel
theorem dX8_image_22 : decode cX8_image 22 = .ok (.if_icmp .ge 40, 3) := by decide +kernel
theorem dX8_image_25 : decode cX8_image 25 = .ok (.aload_n 0, 1) := by decide +kernel
theorem dX8_image_26 : decode cX8_image 26 = .ok (.getfield 56, 3) := by decide +kernel
theorem dX8_image_29 : decode cX8_image 29 = .ok (.iload_n 2, 1) := by decide +kernel
theorem dX8_image_30 : decode cX8_image 30 = .ok (.iload_n 3, 1) := by decide +kernel
theorem dX8_image_31 : decode cX8_image 31 = .ok (.iadd, 1) := by decide +kernel
theorem dX8_image_32 : decode cX8_image 32 = .ok (.aload_n 0, 1) := by decide +kernel
theorem dX8_image_33 : decode cX8_image 33 = .ok (.getfield 7, 3) := by decide +kernel
theorem dX8_image_36 : decode cX8_image 36 = .ok (.iload_n 3, 1) := by decide +kernel
theorem dX8_image_37 : decode cX8_image 37 = .ok (.iaload, 1) := by decide +kernel
theorem dX8_image_38 : decode cX8_image 38 = .ok (.iastore, 1) := by decide +kernel
theorem dX8_image_39 : decode cX8_image 39 = .ok (.aload_n 0, 1) := by decide +kernel
theorem dX8_image_40 : decode cX8_image 40 = .ok (.getfield 56, 3) := by decide +kernel
theorem dX8_image_43 : decode cX8_image 43 = .ok (.iload_n 2, 1) := by decide +kernel
theorem dX8_image_44 : decode cX8_image 44 = .ok (.bipush 24, 2) := by decide +kernel
theorem dX8_image_46 : decode cX8_image 46 = .ok (.iadd, 1) := by decide +kernel
theorem dX8_image_47 : decode cX8_image 47 = .ok (.iload_n 3, 1) := by decide +kernel
theorem dX8_image_48 : decode cX8_image 48 = .ok (.iadd, 1) := by decide +kernel
theorem dX8_image_49 : decode cX8_image 49 = .ok (.aload_n 0, 1) := by decide +kernel
theorem dX8_image_50 : decode cX8_image 50 = .ok (.getfield 23, 3) := by decide +kernel
theorem dX8_image_53 : decode cX8_image 53 = .ok (.iload_n 3, 1) := by decide +kernel
theorem dX8_image_54 : decode cX8_image 54 = .ok (.iaload, 1) := by decide +kernel
theorem dX8_image_55 : decode cX8_image 55 = .ok (.iastore, 1) := by decide +kernel
theorem dX8_image_56 : decode cX8_image 56 = .ok (.iinc 3 1, 3) := by decide +kernel
theorem dX8_image_59 : decode cX8_image 59 = .ok (.goto (-40), 3) := by decide +kernel
theorem dX8_image_62 : decode cX8_image 62 = .ok (.iconst 0, 1) := by decide +kernel
theorem dX8_image_63 : decode cX8_image 63 = .ok (.istore_n 3, 1) := by decide +kernel
theorem dX8_image_64 : decode cX8_image 64 = .ok (.iload_n 3, 1) := by decide +kernel
theorem dX8_image_65 : decode cX8_image 65 = .ok (.bipush 36, 2) := by decide +kernel
theorem dX8_image_67 : decode cX8_image 67 = .ok (.if_icmp .ge 26, 3) := by decide +kernel
theorem dX8_image_70 : decode cX8_image 70 = .ok (.aload_n 0, 1) := by decide +kernel
theorem dX8_image_71 : decode cX8_image 71 = .ok (.getfield 56, 3) := by decide +kernel
theorem dX8_image_74 : decode cX8_image 74 = .ok (.iload_n 2, 1) := by decide +kernel
theorem dX8_image_75 : decode cX8_image 75 = .ok (.bipush 48, 2) := by decide +kernel
theorem dX8_image_77 : decode cX8_image 77 = .ok (.iadd, 1) := by decide +kernel
theorem dX8_image_78 : decode cX8_image 78 = .ok (.iload_n 3, 1) := by decide +kernel
theorem dX8_image_79 : decode cX8_image 79 = .ok (.iadd, 1) := by decide +kernel
theorem dX8_image_80 : decode cX8_image 80 = .ok (.aload_n 0, 1) := by decide +kernel
theorem dX8_image_81 : decode cX8_image 81 = .ok (.getfield 26, 3) := by decide +kernel
theorem dX8_image_84 : decode cX8_image 84 = .ok (.iload_n 3, 1) := by decide +kernel
theorem dX8_image_85 : decode cX8_image 85 = .ok (.iaload, 1) := by decide +kernel
theorem dX8_image_86 : decode cX8_image 86 = .ok (.iastore, 1) := by decide +kernel
theorem dX8_image_87 : decode cX8_image 87 = .ok (.iinc 3 1, 3) := by decide +kernel
theorem dX8_image_90 : decode cX8_image 90 = .ok (.goto (-26), 3) := by decide +kernel
theorem dX8_image_93 : decode cX8_image 93 = .ok (.aload_n 0, 1) := by decide +kernel
theorem dX8_image_94 : decode cX8_image 94 = .ok (.getfield 56, 3) := by decide +kernel
theorem dX8_image_97 : decode cX8_image 97 = .ok (.iload_n 2, 1) := by decide +kernel
theorem dX8_image_98 : decode cX8_image 98 = .ok (.bipush 84, 2) := by decide +kernel
theorem dX8_image_100 : decode cX8_image 100 = .ok (.iadd, 1) := by decide +kernel
theorem dX8_image_101 : decode cX8_image 101 = .ok (.aload_n 0, 1) := by decide +kernel
theorem dX8_image_102 : decode cX8_image 102 = .ok (.getfield 117, 3) := by decide +kernel
theorem dX8_image_105 : decode cX8_image 105 = .ok (.iastore, 1) := by decide +kernel
theorem dX8_image_106 : decode cX8_image 106 = .ok (.aload_n 0, 1) := by decide +kernel
theorem dX8_image_107 : decode cX8_image 107 = .ok (.getfield 56, 3) := by decide +kernel
theorem dX8_image_110 : decode cX8_image 110 = .ok (.iload_n 2, 1) := by decide +kernel
theorem dX8_image_111 : decode cX8_image 111 = .ok (.bipush 85, 2) := by decide +kernel
theorem dX8_image_113 : decode cX8_image 113 = .ok (.iadd, 1) := by decide +kernel
theorem dX8_image_114 : decode cX8_image 114 = .ok (.aload_n 0, 1) := by decide +kernel
theorem dX8_image_115 : decode cX8_image 115 = .ok (.getfield 13, 3) := by decide +kernel
theorem dX8_image_118 : decode cX8_image 118 = .ok (.iastore, 1) := by decide +kernel
theorem dX8_image_119 : decode cX8_image 119 = .ok (.aload_n 0, 1) := by decide +kernel
theorem dX8_image_120 : decode cX8_image 120 = .ok (.getfield 56, 3) := by decide +kernel
theorem dX8_image_123 : decode cX8_image 123 = .ok (.iload_n 2, 1) := by decide +kernel
theorem dX8_image_124 : decode cX8_image 124 = .ok (.bipush 86, 2) := by decide +kernel
theorem dX8_image_126 : decode cX8_image 126 = .ok (.iadd, 1) := by decide +kernel
theorem dX8_image_127 : decode cX8_image 127 = .ok (.aload_n 0, 1) := by decide +kernel
theorem dX8_image_128 : decode cX8_image 128 = .ok (.getfield 17, 3) := by decide +kernel
theorem dX8_image_131 : decode cX8_image 131 = .ok (.iastore, 1) := by decide +kernel
theorem dX8_image_132 : decode cX8_image 132 = .ok (.aload_n 0, 1) := by decide +kernel
theorem dX8_image_133 : decode cX8_image 133 = .ok (.getfield 59, 3) := by decide +kernel
theorem dX8_image_136 : decode cX8_image 136 = .ok (.iload_n 1, 1) := by decide +kernel
theorem dX8_image_137 : decode cX8_image 137 = .ok (.iconst 1, 1) := by decide +kernel
theorem dX8_image_138 : decode cX8_image 138 = .ok (.bastore, 1) := by decide +kernel
theorem dX8_image_139 : decode cX8_image 139 = .ok (.iconst 1, 1) := by decide +kernel
theorem dX8_image_140 : decode cX8_image 140 = .ok (.ireturn, 1) := by decide +kernel
theorem dX8_restore_0 : decode cX8_restore 0 = .ok (.iload_n 1, 1) := by decide +kernel
theorem dX8_restore_1 : decode cX8_restore 1 = .ok (.iconst 0, 1) := by decide +kernel
theorem dX8_restore_2 : decode cX8_restore 2 = .ok (.iconst 1, 1) := by decide +kernel
theorem dX8_restore_3 : decode cX8_restore 3 = .ok (.invokestatic 63, 3) := by decide +kernel
theorem dX8_restore_6 : decode cX8_restore 6 = .ok (.ifCond .ne 6, 3) := by decide +kernel
theorem dX8_restore_9 : decode cX8_restore 9 = .ok (.bipush (-2), 2) := by decide +kernel
theorem dX8_restore_11 : decode cX8_restore 11 = .ok (.ireturn, 1) := by decide +kernel
theorem dX8_restore_12 : decode cX8_restore 12 = .ok (.aload_n 0, 1) := by decide +kernel
theorem dX8_restore_13 : decode cX8_restore 13 = .ok (.getfield 59, 3) := by decide +kernel
theorem dX8_restore_16 : decode cX8_restore 16 = .ok (.iload_n 1, 1) := by decide +kernel
theorem dX8_restore_17 : decode cX8_restore 17 = .ok (.baload, 1) := by decide +kernel
theorem dX8_restore_18 : decode cX8_restore 18 = .ok (.ifCond .ne 6, 3) := by decide +kernel
theorem dX8_restore_21 : decode cX8_restore 21 = .ok (.bipush (-3), 2) := by decide +kernel
theorem dX8_restore_23 : decode cX8_restore 23 = .ok (.ireturn, 1) := by decide +kernel
theorem dX8_restore_24 : decode cX8_restore 24 = .ok (.bipush 88, 2) := by decide +kernel
theorem dX8_restore_26 : decode cX8_restore 26 = .ok (.iload_n 1, 1) := by decide +kernel
theorem dX8_restore_27 : decode cX8_restore 27 = .ok (.imul, 1) := by decide +kernel
theorem dX8_restore_28 : decode cX8_restore 28 = .ok (.istore_n 2, 1) := by decide +kernel
theorem dX8_restore_29 : decode cX8_restore 29 = .ok (.iconst 0, 1) := by decide +kernel
theorem dX8_restore_30 : decode cX8_restore 30 = .ok (.istore_n 3, 1) := by decide +kernel
theorem dX8_restore_31 : decode cX8_restore 31 = .ok (.iload_n 3, 1) := by decide +kernel
theorem dX8_restore_32 : decode cX8_restore 32 = .ok (.bipush 24, 2) := by decide +kernel
theorem dX8_restore_34 : decode cX8_restore 34 = .ok (.if_icmp .ge 40, 3) := by decide +kernel
theorem dX8_restore_37 : decode cX8_restore 37 = .ok (.aload_n 0, 1) := by decide +kernel
theorem dX8_restore_38 : decode cX8_restore 38 = .ok (.getfield 7, 3) := by decide +kernel
theorem dX8_restore_41 : decode cX8_restore 41 = .ok (.iload_n 3, 1) := by decide +kernel
theorem dX8_restore_42 : decode cX8_restore 42 = .ok (.aload_n 0, 1) := by decide +kernel
theorem dX8_restore_43 : decode cX8_restore 43 = .ok (.getfield 56, 3) := by decide +kernel
theorem dX8_restore_46 : decode cX8_restore 46 = .ok (.iload_n 2, 1) := by decide +kernel
theorem dX8_restore_47 : decode cX8_restore 47 = .ok (.iload_n 3, 1) := by decide +kernel
theorem dX8_restore_48 : decode cX8_restore 48 = .ok (.iadd, 1) := by decide +kernel
theorem dX8_restore_49 : decode cX8_restore 49 = .ok (.iaload, 1) := by decide +kernel
theorem dX8_restore_50 : decode cX8_restore 50 = .ok (.iastore, 1) := by decide +kernel
theorem dX8_restore_51 : decode cX8_restore 51 = .ok (.aload_n 0, 1) := by decide +kernel
theorem dX8_restore_52 : decode cX8_restore 52 = .ok (.getfield 23, 3) := by decide +kernel
theorem dX8_restore_55 : decode cX8_restore 55 = .ok (.iload_n 3, 1) := by decide +kernel
theorem dX8_restore_56 : decode cX8_restore 56 = .ok (.aload_n 0, 1) := by decide +kernel
theorem dX8_restore_57 : decode cX8_restore 57 = .ok (.getfield 56, 3) := by decide +kernel
theorem dX8_restore_60 : decode cX8_restore 60 = .ok (.iload_n 2, 1) := by decide +kernel
theorem dX8_restore_61 : decode cX8_restore 61 = .ok (.bipush 24, 2) := by decide +kernel
theorem dX8_restore_63 : decode cX8_restore 63 = .ok (.iadd, 1) := by decide +kernel
theorem dX8_restore_64 : decode cX8_restore 64 = .ok (.iload_n 3, 1) := by decide +kernel
theorem dX8_restore_65 : decode cX8_restore 65 = .ok (.iadd, 1) := by decide +kernel
theorem dX8_restore_66 : decode cX8_restore 66 = .ok (.iaload, 1) := by decide +kernel
theorem dX8_restore_67 : decode cX8_restore 67 = .ok (.iastore, 1) := by decide +kernel
theorem dX8_restore_68 : decode cX8_restore 68 = .ok (.iinc 3 1, 3) := by decide +kernel
theorem dX8_restore_71 : decode cX8_restore 71 = .ok (.goto (-40), 3) := by decide +kernel
theorem dX8_restore_74 : decode cX8_restore 74 = .ok (.iconst 0, 1) := by decide +kernel
theorem dX8_restore_75 : decode cX8_restore 75 = .ok (.istore_n 3, 1) := by decide +kernel
theorem dX8_restore_76 : decode cX8_restore 76 = .ok (.iload_n 3, 1) := by decide +kernel
theorem dX8_restore_77 : decode cX8_restore 77 = .ok (.bipush 36, 2) := by decide +kernel
theorem dX8_restore_79 : decode cX8_restore 79 = .ok (.if_icmp .ge 26, 3) := by decide +kernel
theorem dX8_restore_82 : decode cX8_restore 82 = .ok (.aload_n 0, 1) := by decide +kernel
theorem dX8_restore_83 : decode cX8_restore 83 = .ok (.getfield 26, 3) := by decide +kernel
theorem dX8_restore_86 : decode cX8_restore 86 = .ok (.iload_n 3, 1) := by decide +kernel
theorem dX8_restore_87 : decode cX8_restore 87 = .ok (.aload_n 0, 1) := by decide +kernel
theorem dX8_restore_88 : decode cX8_restore 88 = .ok (.getfield 56, 3) := by decide +kernel
theorem dX8_restore_91 : decode cX8_restore 91 = .ok (.iload_n 2, 1) := by decide +kernel
theorem dX8_restore_92 : decode cX8_restore 92 = .ok (.bipush 48, 2) := by decide +kernel
theorem dX8_restore_94 : decode cX8_restore 94 = .ok (.iadd, 1) := by decide +kernel
theorem dX8_restore_95 : decode cX8_restore 95 = .ok (.iload_n 3, 1) := by decide +kernel
theorem dX8_restore_96 : decode cX8_restore 96 = .ok (.iadd, 1) := by decide +kernel
theorem dX8_restore_97 : decode cX8_restore 97 = .ok (.iaload, 1) := by decide +kernel
theorem dX8_restore_98 : decode cX8_restore 98 = .ok (.iastore, 1) := by decide +kernel
theorem dX8_restore_99 : decode cX8_restore 99 = .ok (.iinc 3 1, 3) := by decide +kernel
theorem dX8_restore_102 : decode cX8_restore 102 = .ok (.goto (-26), 3) := by decide +kernel
theorem dX8_restore_105 : decode cX8_restore 105 = .ok (.aload_n 0, 1) := by decide +kernel
theorem dX8_restore_106 : decode cX8_restore 106 = .ok (.aload_n 0, 1) := by decide +kernel
theorem dX8_restore_107 : decode cX8_restore 107 = .ok (.getfield 56, 3) := by decide +kernel
theorem dX8_restore_110 : decode cX8_restore 110 = .ok (.iload_n 2, 1) := by decide +kernel
theorem dX8_restore_111 : decode cX8_restore 111 = .ok (.bipush 84, 2) := by decide +kernel
theorem dX8_restore_113 : decode cX8_restore 113 = .ok (.iadd, 1) := by decide +kernel
theorem dX8_restore_114 : decode cX8_restore 114 = .ok (.iaload, 1) := by decide +kernel
theorem dX8_restore_115 : decode cX8_restore 115 = .ok (.putfield 117, 3) := by decide +kernel
theorem dX8_restore_118 : decode cX8_restore 118 = .ok (.aload_n 0, 1) := by decide +kernel
theorem dX8_restore_119 : decode cX8_restore 119 = .ok (.aload_n 0, 1) := by decide +kernel
theorem dX8_restore_120 : decode cX8_restore 120 = .ok (.getfield 56, 3) := by decide +kernel
theorem dX8_restore_123 : decode cX8_restore 123 = .ok (.iload_n 2, 1) := by decide +kernel
theorem dX8_restore_124 : decode cX8_restore 124 = .ok (.bipush 85, 2) := by decide +kernel
theorem dX8_restore_126 : decode cX8_restore 126 = .ok (.iadd, 1) := by decide +kernel
theorem dX8_restore_127 : decode cX8_restore 127 = .ok (.iaload, 1) := by decide +kernel
theorem dX8_restore_128 : decode cX8_restore 128 = .ok (.putfield 13, 3) := by decide +kernel
theorem dX8_restore_131 : decode cX8_restore 131 = .ok (.aload_n 0, 1) := by decide +kernel
theorem dX8_restore_132 : decode cX8_restore 132 = .ok (.aload_n 0, 1) := by decide +kernel
theorem dX8_restore_133 : decode cX8_restore 133 = .ok (.getfield 56, 3) := by decide +kernel
theorem dX8_restore_136 : decode cX8_restore 136 = .ok (.iload_n 2, 1) := by decide +kernel
theorem dX8_restore_137 : decode cX8_restore 137 = .ok (.bipush 86, 2) := by decide +kernel
theorem dX8_restore_139 : decode cX8_restore 139 = .ok (.iadd, 1) := by decide +kernel
theorem dX8_restore_140 : decode cX8_restore 140 = .ok (.iaload, 1) := by decide +kernel
theorem dX8_restore_141 : decode cX8_restore 141 = .ok (.putfield 17, 3) := by decide +kernel
theorem dX8_restore_144 : decode cX8_restore 144 = .ok (.iconst 1, 1) := by decide +kernel
theorem dX8_restore_145 : decode cX8_restore 145 = .ok (.ireturn, 1) := by decide +kernel
theorem dX8_told_0 : decode cX8_told 0 = .ok (.iload_n 1, 1) := by decide +kernel
theorem dX8_told_1 : decode cX8_told 1 = .ok (.bipush 100, 2) := by decide +kernel
theorem dX8_told_3 : decode cX8_told 3 = .ok (.sipush 135, 3) := by decide +kernel
theorem dX8_told_6 : decode cX8_told 6 = .ok (.invokestatic 63, 3) := by decide +kernel
theorem dX8_told_9 : decode cX8_told 9 = .ok (.ifCond .eq 13, 3) := by decide +kernel
theorem dX8_told_12 : decode cX8_told 12 = .ok (.aload_n 0, 1) := by decide +kernel
theorem dX8_told_13 : decode cX8_told 13 = .ok (.getfield 26, 3) := by decide +kernel
theorem dX8_told_16 : decode cX8_told 16 = .ok (.iload_n 1, 1) := by decide +kernel
theorem dX8_told_17 : decode cX8_told 17 = .ok (.bipush 100, 2) := by decide +kernel
theorem dX8_told_19 : decode cX8_told 19 = .ok (.isub, 1) := by decide +kernel
theorem dX8_told_20 : decode cX8_told 20 = .ok (.iaload, 1) := by decide +kernel
theorem dX8_told_21 : decode cX8_told 21 = .ok (.ireturn, 1) := by decide +kernel
theorem dX8_told_22 : decode cX8_told 22 = .ok (.iload_n 1, 1) := by decide +kernel
theorem dX8_told_23 : decode cX8_told 23 = .ok (.bipush 10, 2) := by decide +kernel
theorem dX8_told_25 : decode cX8_told 25 = .ok (.if_icmp .lt 40, 3) := by decide +kernel
theorem dX8_told_28 : decode cX8_told 28 = .ok (.iload_n 1, 1) := by decide +kernel
theorem dX8_told_29 : decode cX8_told 29 = .ok (.bipush 10, 2) := by decide +kernel
theorem dX8_told_31 : decode cX8_told 31 = .ok (.irem, 1) := by decide +kernel
theorem dX8_told_32 : decode cX8_told 32 = .ok (.iconst 0, 1) := by decide +kernel
theorem dX8_told_33 : decode cX8_told 33 = .ok (.iconst 5, 1) := by decide +kernel
theorem dX8_told_34 : decode cX8_told 34 = .ok (.invokestatic 63, 3) := by decide +kernel
theorem dX8_told_37 : decode cX8_told 37 = .ok (.ifCond .eq 28, 3) := by decide +kernel
theorem dX8_told_40 : decode cX8_told 40 = .ok (.iload_n 1, 1) := by decide +kernel
theorem dX8_told_41 : decode cX8_told 41 = .ok (.bipush 46, 2) := by decide +kernel
theorem dX8_told_43 : decode cX8_told 43 = .ok (.if_icmp .ge 22, 3) := by decide +kernel
theorem dX8_told_46 : decode cX8_told 46 = .ok (.aload_n 0, 1) := by decide +kernel
theorem dX8_told_47 : decode cX8_told 47 = .ok (.getfield 7, 3) := by decide +kernel
theorem dX8_told_50 : decode cX8_told 50 = .ok (.iconst 4, 1) := by decide +kernel
theorem dX8_told_51 : decode cX8_told 51 = .ok (.iload_n 1, 1) := by decide +kernel
theorem dX8_told_52 : decode cX8_told 52 = .ok (.bipush 10, 2) := by decide +kernel
theorem dX8_told_54 : decode cX8_told 54 = .ok (.irem, 1) := by decide +kernel
theorem dX8_told_55 : decode cX8_told 55 = .ok (.imul, 1) := by decide +kernel
theorem dX8_told_56 : decode cX8_told 56 = .ok (.iload_n 1, 1) := by decide +kernel
theorem dX8_told_57 : decode cX8_told 57 = .ok (.bipush 10, 2) := by decide +kernel
theorem dX8_told_59 : decode cX8_told 59 = .ok (.idiv, 1) := by decide +kernel
theorem dX8_told_60 : decode cX8_told 60 = .ok (.iadd, 1) := by decide +kernel
theorem dX8_told_61 : decode cX8_told 61 = .ok (.iconst 1, 1) := by decide +kernel
theorem dX8_told_62 : decode cX8_told 62 = .ok (.isub, 1) := by decide +kernel
theorem dX8_told_63 : decode cX8_told 63 = .ok (.iaload, 1) := by decide +kernel
theorem dX8_told_64 : decode cX8_told 64 = .ok (.ireturn, 1) := by decide +kernel
theorem dX8_told_65 : decode cX8_told 65 = .ok (.iload_n 1, 1) := by decide +kernel
theorem dX8_told_66 : decode cX8_told 66 = .ok (.ifCond .ne 10, 3) := by decide +kernel
theorem dX8_told_69 : decode cX8_told 69 = .ok (.aload_n 0, 1) := by decide +kernel
theorem dX8_told_70 : decode cX8_told 70 = .ok (.getfield 75, 3) := by decide +kernel
theorem dX8_told_73 : decode cX8_told 73 = .ok (.goto 41, 3) := by decide +kernel
theorem dX8_told_76 : decode cX8_told 76 = .ok (.iload_n 1, 1) := by decide +kernel
theorem dX8_told_77 : decode cX8_told 77 = .ok (.iconst 1, 1) := by decide +kernel
theorem dX8_told_78 : decode cX8_told 78 = .ok (.if_icmp .ne 10, 3) := by decide +kernel
theorem dX8_told_81 : decode cX8_told 81 = .ok (.aload_n 0, 1) := by decide +kernel
theorem dX8_told_82 : decode cX8_told 82 = .ok (.getfield 117, 3) := by decide +kernel
theorem dX8_told_85 : decode cX8_told 85 = .ok (.goto 29, 3) := by decide +kernel
theorem dX8_told_88 : decode cX8_told 88 = .ok (.iload_n 1, 1) := by decide +kernel
theorem dX8_told_89 : decode cX8_told 89 = .ok (.iconst 2, 1) := by decide +kernel
theorem dX8_told_90 : decode cX8_told 90 = .ok (.if_icmp .ne 10, 3) := by decide +kernel
theorem dX8_told_93 : decode cX8_told 93 = .ok (.aload_n 0, 1) := by decide +kernel
theorem dX8_told_94 : decode cX8_told 94 = .ok (.getfield 13, 3) := by decide +kernel
theorem dX8_told_97 : decode cX8_told 97 = .ok (.goto 17, 3) := by decide +kernel
theorem dX8_told_100 : decode cX8_told 100 = .ok (.iload_n 1, 1) := by decide +kernel
theorem dX8_told_101 : decode cX8_told 101 = .ok (.iconst 3, 1) := by decide +kernel
theorem dX8_told_102 : decode cX8_told 102 = .ok (.if_icmp .ne 10, 3) := by decide +kernel
theorem dX8_told_105 : decode cX8_told 105 = .ok (.aload_n 0, 1) := by decide +kernel
theorem dX8_told_106 : decode cX8_told 106 = .ok (.getfield 17, 3) := by decide +kernel
theorem dX8_told_109 : decode cX8_told 109 = .ok (.goto 5, 3) := by decide +kernel
theorem dX8_told_112 : decode cX8_told 112 = .ok (.bipush (-2), 2) := by decide +kernel
theorem dX8_told_114 : decode cX8_told 114 = .ok (.ireturn, 1) := by decide +kernel
theorem dJ6_bitCount_0f7a4_0 : decode cJ6_bitCount_0f7a4 0 = .ok (.iload_n 0, 1) := by decide +kernel
theorem dJ6_bitCount_0f7a4_1 : decode cJ6_bitCount_0f7a4 1 = .ok (.iload_n 0, 1) := by decide +kernel
theorem dJ6_bitCount_0f7a4_2 : decode cJ6_bitCount_0f7a4 2 = .ok (.iconst 1, 1) := by decide +kernel
theorem dJ6_bitCount_0f7a4_3 : decode cJ6_bitCount_0f7a4 3 = .ok (.iushr, 1) := by decide +kernel
theorem dJ6_bitCount_0f7a4_4 : decode cJ6_bitCount_0f7a4 4 = .ok (.ldc_w 265, 3) := by decide +kernel
theorem dJ6_bitCount_0f7a4_7 : decode cJ6_bitCount_0f7a4 7 = .ok (.iand, 1) := by decide +kernel
theorem dJ6_bitCount_0f7a4_8 : decode cJ6_bitCount_0f7a4 8 = .ok (.isub, 1) := by decide +kernel
theorem dJ6_bitCount_0f7a4_9 : decode cJ6_bitCount_0f7a4 9 = .ok (.istore_n 0, 1) := by decide +kernel
theorem dJ6_bitCount_0f7a4_10 : decode cJ6_bitCount_0f7a4 10 = .ok (.iload_n 0, 1) := by decide +kernel
theorem dJ6_bitCount_0f7a4_11 : decode cJ6_bitCount_0f7a4 11 = .ok (.ldc_w 266, 3) := by decide +kernel
theorem dJ6_bitCount_0f7a4_14 : decode cJ6_bitCount_0f7a4 14 = .ok (.iand, 1) := by decide +kernel
theorem dJ6_bitCount_0f7a4_15 : decode cJ6_bitCount_0f7a4 15 = .ok (.iload_n 0, 1) := by decide +kernel
theorem dJ6_bitCount_0f7a4_16 : decode cJ6_bitCount_0f7a4 16 = .ok (.iconst 2, 1) := by decide +kernel
theorem dJ6_bitCount_0f7a4_17 : decode cJ6_bitCount_0f7a4 17 = .ok (.iushr, 1) := by decide +kernel
theorem dJ6_bitCount_0f7a4_18 : decode cJ6_bitCount_0f7a4 18 = .ok (.ldc_w 266, 3) := by decide +kernel
theorem dJ6_bitCount_0f7a4_21 : decode cJ6_bitCount_0f7a4 21 = .ok (.iand, 1) := by decide +kernel
theorem dJ6_bitCount_0f7a4_22 : decode cJ6_bitCount_0f7a4 22 = .ok (.iadd, 1) := by decide +kernel
theorem dJ6_bitCount_0f7a4_23 : decode cJ6_bitCount_0f7a4 23 = .ok (.istore_n 0, 1) := by decide +kernel
theorem dJ6_bitCount_0f7a4_24 : decode cJ6_bitCount_0f7a4 24 = .ok (.iload_n 0, 1) := by decide +kernel
theorem dJ6_bitCount_0f7a4_25 : decode cJ6_bitCount_0f7a4 25 = .ok (.iload_n 0, 1) := by decide +kernel
theorem dJ6_bitCount_0f7a4_26 : decode cJ6_bitCount_0f7a4 26 = .ok (.iconst 4, 1) := by decide +kernel
theorem dJ6_bitCount_0f7a4_27 : decode cJ6_bitCount_0f7a4 27 = .ok (.iushr, 1) := by decide +kernel
theorem dJ6_bitCount_0f7a4_28 : decode cJ6_bitCount_0f7a4 28 = .ok (.iadd, 1) := by decide +kernel
theorem dJ6_bitCount_0f7a4_29 : decode cJ6_bitCount_0f7a4 29 = .ok (.ldc_w 267, 3) := by decide +kernel
theorem dJ6_bitCount_0f7a4_32 : decode cJ6_bitCount_0f7a4 32 = .ok (.iand, 1) := by decide +kernel
theorem dJ6_bitCount_0f7a4_33 : decode cJ6_bitCount_0f7a4 33 = .ok (.istore_n 0, 1) := by decide +kernel
theorem dJ6_bitCount_0f7a4_34 : decode cJ6_bitCount_0f7a4 34 = .ok (.iload_n 0, 1) := by decide +kernel
theorem dJ6_bitCount_0f7a4_35 : decode cJ6_bitCount_0f7a4 35 = .ok (.iload_n 0, 1) := by decide +kernel
theorem dJ6_bitCount_0f7a4_36 : decode cJ6_bitCount_0f7a4 36 = .ok (.bipush 8, 2) := by decide +kernel
theorem dJ6_bitCount_0f7a4_38 : decode cJ6_bitCount_0f7a4 38 = .ok (.iushr, 1) := by decide +kernel
theorem dJ6_bitCount_0f7a4_39 : decode cJ6_bitCount_0f7a4 39 = .ok (.iadd, 1) := by decide +kernel
theorem dJ6_bitCount_0f7a4_40 : decode cJ6_bitCount_0f7a4 40 = .ok (.istore_n 0, 1) := by decide +kernel
theorem dJ6_bitCount_0f7a4_41 : decode cJ6_bitCount_0f7a4 41 = .ok (.iload_n 0, 1) := by decide +kernel
theorem dJ6_bitCount_0f7a4_42 : decode cJ6_bitCount_0f7a4 42 = .ok (.iload_n 0, 1) := by decide +kernel
theorem dJ6_bitCount_0f7a4_43 : decode cJ6_bitCount_0f7a4 43 = .ok (.bipush 16, 2) := by decide +kernel
theorem dJ6_bitCount_0f7a4_45 : decode cJ6_bitCount_0f7a4 45 = .ok (.iushr, 1) := by decide +kernel
theorem dJ6_bitCount_0f7a4_46 : decode cJ6_bitCount_0f7a4 46 = .ok (.iadd, 1) := by decide +kernel
theorem dJ6_bitCount_0f7a4_47 : decode cJ6_bitCount_0f7a4 47 = .ok (.istore_n 0, 1) := by decide +kernel
theorem dJ6_bitCount_0f7a4_48 : decode cJ6_bitCount_0f7a4 48 = .ok (.iload_n 0, 1) := by decide +kernel
theorem dJ6_bitCount_0f7a4_49 : decode cJ6_bitCount_0f7a4 49 = .ok (.bipush 63, 2) := by decide +kernel
theorem dJ6_bitCount_0f7a4_51 : decode cJ6_bitCount_0f7a4 51 = .ok (.iand, 1) := by decide +kernel
theorem dJ6_bitCount_0f7a4_52 : decode cJ6_bitCount_0f7a4 52 = .ok (.ireturn, 1) := by decide +kernel
theorem dJ9_max_7cf53_0 : decode cJ9_max_7cf53 0 = .ok (.iload_n 0, 1) := by decide +kernel
theorem dJ9_max_7cf53_1 : decode cJ9_max_7cf53 1 = .ok (.iload_n 1, 1) := by decide +kernel
theorem dJ9_max_7cf53_2 : decode cJ9_max_7cf53 2 = .ok (.if_icmp .lt 7, 3) := by decide +kernel
theorem dJ9_max_7cf53_5 : decode cJ9_max_7cf53 5 = .ok (.iload_n 0, 1) := by decide +kernel
theorem dJ9_max_7cf53_6 : decode cJ9_max_7cf53 6 = .ok (.goto 4, 3) := by decide +kernel
theorem dJ9_max_7cf53_9 : decode cJ9_max_7cf53 9 = .ok (.iload_n 1, 1) := by decide +kernel
theorem dJ9_max_7cf53_10 : decode cJ9_max_7cf53 10 = .ok (.ireturn, 1) := by decide +kernel
theorem dJ9_min_7cf53_0 : decode cJ9_min_7cf53 0 = .ok (.iload_n 0, 1) := by decide +kernel
theorem dJ9_min_7cf53_1 : decode cJ9_min_7cf53 1 = .ok (.iload_n 1, 1) := by decide +kernel
theorem dJ9_min_7cf53_2 : decode cJ9_min_7cf53 2 = .ok (.if_icmp .gt 7, 3) := by decide +kernel
theorem dJ9_min_7cf53_5 : decode cJ9_min_7cf53 5 = .ok (.iload_n 0, 1) := by decide +kernel
theorem dJ9_min_7cf53_6 : decode cJ9_min_7cf53 6 = .ok (.goto 4, 3) := by decide +kernel
theorem dJ9_min_7cf53_9 : decode cJ9_min_7cf53 9 = .ok (.iload_n 1, 1) := by decide +kernel
theorem dJ9_min_7cf53_10 : decode cJ9_min_7cf53 10 = .ok (.ireturn, 1) := by decide +kernel
theorem dL_law_0 : decode cL_law 0 = .ok (.new 7, 3) := by decide +kernel
theorem dL_law_3 : decode cL_law 3 = .ok (.dup, 1) := by decide +kernel
theorem dL_law_4 : decode cL_law 4 = .ok (.invokespecial 9, 3) := by decide +kernel
theorem dL_law_7 : decode cL_law 7 = .ok (.astore_n 1, 1) := by decide +kernel
theorem dL_law_8 : decode cL_law 8 = .ok (.new 10, 3) := by decide +kernel
theorem dL_law_11 : decode cL_law 11 = .ok (.dup, 1) := by decide +kernel
theorem dL_law_12 : decode cL_law 12 = .ok (.invokespecial 12, 3) := by decide +kernel
theorem dL_law_15 : decode cL_law 15 = .ok (.astore_n 2, 1) := by decide +kernel
theorem dL_law_16 : decode cL_law 16 = .ok (.iconst 0, 1) := by decide +kernel
theorem dL_law_17 : decode cL_law 17 = .ok (.istore_n 3, 1) := by decide +kernel
theorem dL_law_18 : decode cL_law 18 = .ok (.iload_n 3, 1) := by decide +kernel
theorem dL_law_19 : decode cL_law 19 = .ok (.aload_n 0, 1) := by decide +kernel
theorem dL_law_20 : decode cL_law 20 = .ok (.arraylength, 1) := by decide +kernel
theorem dL_law_21 : decode cL_law 21 = .ok (.iconst 4, 1) := by decide +kernel
theorem dL_law_22 : decode cL_law 22 = .ok (.isub, 1) := by decide +kernel
theorem dL_law_23 : decode cL_law 23 = .ok (.if_icmp .gt 685, 3) := by decide +kernel
theorem dL_law_26 : decode cL_law 26 = .ok (.aload_n 0, 1) := by decide +kernel
theorem dL_law_27 : decode cL_law 27 = .ok (.iload_n 3, 1) := by decide +kernel
theorem dL_law_28 : decode cL_law 28 = .ok (.iaload, 1) := by decide +kernel
theorem dL_law_29 : decode cL_law 29 = .ok (.bipush 31, 2) := by decide +kernel
theorem dL_law_31 : decode cL_law 31 = .ok (.iand, 1) := by decide +kernel
theorem dL_law_32 : decode cL_law 32 = .ok (.tableswitch 670 0 21 #[104, 147, 180, 203, 216, 239, 262, 275, 318, 351, 364, 387, 420, 463, 486, 499, 532, 545, 568, 601, 624, 647], 104) := by decide +kernel
theorem dL_law_136 : decode cL_law 136 = .ok (.aload_n 1, 1) := by decide +kernel
theorem dL_law_137 : decode cL_law 137 = .ok (.aload_n 0, 1) := by decide +kernel
theorem dL_law_138 : decode cL_law 138 = .ok (.iload_n 3, 1) := by decide +kernel
theorem dL_law_139 : decode cL_law 139 = .ok (.iconst 1, 1) := by decide +kernel
theorem dL_law_140 : decode cL_law 140 = .ok (.iadd, 1) := by decide +kernel
theorem dL_law_141 : decode cL_law 141 = .ok (.iaload, 1) := by decide +kernel
theorem dL_law_142 : decode cL_law 142 = .ok (.aload_n 0, 1) := by decide +kernel
theorem dL_law_143 : decode cL_law 143 = .ok (.iload_n 3, 1) := by decide +kernel
theorem dL_law_144 : decode cL_law 144 = .ok (.iconst 2, 1) := by decide +kernel
theorem dL_law_145 : decode cL_law 145 = .ok (.iadd, 1) := by decide +kernel
theorem dL_law_146 : decode cL_law 146 = .ok (.iaload, 1) := by decide +kernel
theorem dL_law_147 : decode cL_law 147 = .ok (.aload_n 0, 1) := by decide +kernel
theorem dL_law_148 : decode cL_law 148 = .ok (.iload_n 3, 1) := by decide +kernel
theorem dL_law_149 : decode cL_law 149 = .ok (.iconst 3, 1) := by decide +kernel
theorem dL_law_150 : decode cL_law 150 = .ok (.iadd, 1) := by decide +kernel
theorem dL_law_151 : decode cL_law 151 = .ok (.iaload, 1) := by decide +kernel
theorem dL_law_152 : decode cL_law 152 = .ok (.invokevirtual 13, 3) := by decide +kernel
theorem dL_law_155 : decode cL_law 155 = .ok (.aload_n 2, 1) := by decide +kernel
theorem dL_law_156 : decode cL_law 156 = .ok (.aload_n 0, 1) := by decide +kernel
theorem dL_law_157 : decode cL_law 157 = .ok (.iload_n 3, 1) := by decide +kernel
theorem dL_law_158 : decode cL_law 158 = .ok (.iconst 1, 1) := by decide +kernel
theorem dL_law_159 : decode cL_law 159 = .ok (.iadd, 1) := by decide +kernel
theorem dL_law_160 : decode cL_law 160 = .ok (.iaload, 1) := by decide +kernel
theorem dL_law_161 : decode cL_law 161 = .ok (.aload_n 0, 1) := by decide +kernel
theorem dL_law_162 : decode cL_law 162 = .ok (.iload_n 3, 1) := by decide +kernel
theorem dL_law_163 : decode cL_law 163 = .ok (.iconst 2, 1) := by decide +kernel
theorem dL_law_164 : decode cL_law 164 = .ok (.iadd, 1) := by decide +kernel
theorem dL_law_165 : decode cL_law 165 = .ok (.iaload, 1) := by decide +kernel
theorem dL_law_166 : decode cL_law 166 = .ok (.aload_n 0, 1) := by decide +kernel
theorem dL_law_167 : decode cL_law 167 = .ok (.iload_n 3, 1) := by decide +kernel
theorem dL_law_168 : decode cL_law 168 = .ok (.iconst 3, 1) := by decide +kernel
theorem dL_law_169 : decode cL_law 169 = .ok (.iadd, 1) := by decide +kernel
theorem dL_law_170 : decode cL_law 170 = .ok (.iaload, 1) := by decide +kernel
theorem dL_law_171 : decode cL_law 171 = .ok (.invokevirtual 17, 3) := by decide +kernel
theorem dL_law_174 : decode cL_law 174 = .ok (.if_icmp .eq 528, 3) := by decide +kernel
theorem dL_law_177 : decode cL_law 177 = .ok (.iconst 0, 1) := by decide +kernel
theorem dL_law_178 : decode cL_law 178 = .ok (.ireturn, 1) := by decide +kernel
theorem dL_law_179 : decode cL_law 179 = .ok (.aload_n 1, 1) := by decide +kernel
theorem dL_law_180 : decode cL_law 180 = .ok (.aload_n 0, 1) := by decide +kernel
theorem dL_law_181 : decode cL_law 181 = .ok (.iload_n 3, 1) := by decide +kernel
theorem dL_law_182 : decode cL_law 182 = .ok (.iconst 1, 1) := by decide +kernel
theorem dL_law_183 : decode cL_law 183 = .ok (.iadd, 1) := by decide +kernel
theorem dL_law_184 : decode cL_law 184 = .ok (.iaload, 1) := by decide +kernel
theorem dL_law_185 : decode cL_law 185 = .ok (.aload_n 0, 1) := by decide +kernel
theorem dL_law_186 : decode cL_law 186 = .ok (.iload_n 3, 1) := by decide +kernel
theorem dL_law_187 : decode cL_law 187 = .ok (.iconst 2, 1) := by decide +kernel
theorem dL_law_188 : decode cL_law 188 = .ok (.iadd, 1) := by decide +kernel
theorem dL_law_189 : decode cL_law 189 = .ok (.iaload, 1) := by decide +kernel
theorem dL_law_190 : decode cL_law 190 = .ok (.invokevirtual 18, 3) := by decide +kernel
theorem dL_law_193 : decode cL_law 193 = .ok (.aload_n 2, 1) := by decide +kernel
theorem dL_law_194 : decode cL_law 194 = .ok (.aload_n 0, 1) := by decide +kernel
theorem dL_law_195 : decode cL_law 195 = .ok (.iload_n 3, 1) := by decide +kernel
theorem dL_law_196 : decode cL_law 196 = .ok (.iconst 1, 1) := by decide +kernel
theorem dL_law_197 : decode cL_law 197 = .ok (.iadd, 1) := by decide +kernel
theorem dL_law_198 : decode cL_law 198 = .ok (.iaload, 1) := by decide +kernel
theorem dL_law_199 : decode cL_law 199 = .ok (.aload_n 0, 1) := by decide +kernel
theorem dL_law_200 : decode cL_law 200 = .ok (.iload_n 3, 1) := by decide +kernel
theorem dL_law_201 : decode cL_law 201 = .ok (.iconst 2, 1) := by decide +kernel
theorem dL_law_202 : decode cL_law 202 = .ok (.iadd, 1) := by decide +kernel
theorem dL_law_203 : decode cL_law 203 = .ok (.iaload, 1) := by decide +kernel
theorem dL_law_204 : decode cL_law 204 = .ok (.invokevirtual 22, 3) := by decide +kernel
theorem dL_law_207 : decode cL_law 207 = .ok (.if_icmp .eq 495, 3) := by decide +kernel
theorem dL_law_210 : decode cL_law 210 = .ok (.iconst 0, 1) := by decide +kernel
theorem dL_law_211 : decode cL_law 211 = .ok (.ireturn, 1) := by decide +kernel
theorem dL_law_212 : decode cL_law 212 = .ok (.aload_n 1, 1) := by decide +kernel
theorem dL_law_213 : decode cL_law 213 = .ok (.aload_n 0, 1) := by decide +kernel
theorem dL_law_214 : decode cL_law 214 = .ok (.iload_n 3, 1) := by decide +kernel
theorem dL_law_215 : decode cL_law 215 = .ok (.iconst 1, 1) := by decide +kernel
theorem dL_law_216 : decode cL_law 216 = .ok (.iadd, 1) := by decide +kernel
theorem dL_law_217 : decode cL_law 217 = .ok (.iaload, 1) := by decide +kernel
theorem dL_law_218 : decode cL_law 218 = .ok (.invokevirtual 23, 3) := by decide +kernel
theorem dL_law_221 : decode cL_law 221 = .ok (.aload_n 2, 1) := by decide +kernel
theorem dL_law_222 : decode cL_law 222 = .ok (.aload_n 0, 1) := by decide +kernel
theorem dL_law_223 : decode cL_law 223 = .ok (.iload_n 3, 1) := by decide +kernel
theorem dL_law_224 : decode cL_law 224 = .ok (.iconst 1, 1) := by decide +kernel
theorem dL_law_225 : decode cL_law 225 = .ok (.iadd, 1) := by decide +kernel
theorem dL_law_226 : decode cL_law 226 = .ok (.iaload, 1) := by decide +kernel
theorem dL_law_227 : decode cL_law 227 = .ok (.invokevirtual 27, 3) := by decide +kernel
theorem dL_law_230 : decode cL_law 230 = .ok (.if_icmp .eq 472, 3) := by decide +kernel
theorem dL_law_233 : decode cL_law 233 = .ok (.iconst 0, 1) := by decide +kernel
