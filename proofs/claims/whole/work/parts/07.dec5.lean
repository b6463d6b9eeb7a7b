theorem dX8_mayBegin_16 : decode cX8_mayBegin 16 = .ok (.iadd, 1) := by decide +kernel
theorem dX8_mayBegin_17 : decode cX8_mayBegin 17 = .ok (.iaload, 1) := by decide +kernel
theorem dX8_mayBegin_18 : decode cX8_mayBegin 18 = .ok (.iload_n 1, 1) := by decide +kernel
theorem dX8_mayBegin_19 : decode cX8_mayBegin 19 = .ok (.iconst (-1), 1) := by decide +kernel
theorem dX8_mayBegin_20 : decode cX8_mayBegin 20 = .ok (.ixor, 1) := by decide +kernel
theorem dX8_mayBegin_21 : decode cX8_mayBegin 21 = .ok (.iand, 1) := by decide +kernel
theorem dX8_mayBegin_22 : decode cX8_mayBegin 22 = .ok (.ifCond .ne 7, 3) := by decide +kernel
theorem dX8_mayBegin_25 : decode cX8_mayBegin 25 = .ok (.iconst 1, 1) := by decide +kernel
theorem dX8_mayBegin_26 : decode cX8_mayBegin 26 = .ok (.goto 4, 3) := by decide +kernel
theorem dX8_mayBegin_29 : decode cX8_mayBegin 29 = .ok (.iconst 0, 1) := by decide +kernel
theorem dX8_mayBegin_30 : decode cX8_mayBegin 30 = .ok (.ireturn, 1) := by decide +kernel
theorem dX8_spokenBy_0 : decode cX8_spokenBy 0 = .ok (.iconst 0, 1) := by decide +kernel
theorem dX8_spokenBy_1 : decode cX8_spokenBy 1 = .ok (.istore_n 3, 1) := by decide +kernel
theorem dX8_spokenBy_2 : decode cX8_spokenBy 2 = .ok (.iconst 0, 1) := by decide +kernel
theorem dX8_spokenBy_3 : decode cX8_spokenBy 3 = .ok (.istore 4, 2) := by decide +kernel
theorem dX8_spokenBy_5 : decode cX8_spokenBy 5 = .ok (.iload 4, 2) := by decide +kernel
theorem dX8_spokenBy_7 : decode cX8_spokenBy 7 = .ok (.aload_n 0, 1) := by decide +kernel
theorem dX8_spokenBy_8 : decode cX8_spokenBy 8 = .ok (.getfield 117, 3) := by decide +kernel
theorem dX8_spokenBy_11 : decode cX8_spokenBy 11 = .ok (.if_icmp .ge 50, 3) := by decide +kernel
theorem dX8_spokenBy_14 : decode cX8_spokenBy 14 = .ok (.iload_n 3, 1) := by decide +kernel
theorem dX8_spokenBy_15 : decode cX8_spokenBy 15 = .ok (.iload_n 2, 1) := by decide +kernel
theorem dX8_spokenBy_16 : decode cX8_spokenBy 16 = .ok (.iload 4, 2) := by decide +kernel
theorem dX8_spokenBy_18 : decode cX8_spokenBy 18 = .ok (.ishr, 1) := by decide +kernel
theorem dX8_spokenBy_19 : decode cX8_spokenBy 19 = .ok (.iconst 1, 1) := by decide +kernel
theorem dX8_spokenBy_20 : decode cX8_spokenBy 20 = .ok (.iand, 1) := by decide +kernel
theorem dX8_spokenBy_21 : decode cX8_spokenBy 21 = .ok (.iconst 1, 1) := by decide +kernel
theorem dX8_spokenBy_22 : decode cX8_spokenBy 22 = .ok (.if_icmp .ne 30, 3) := by decide +kernel
theorem dX8_spokenBy_25 : decode cX8_spokenBy 25 = .ok (.aload_n 0, 1) := by decide +kernel
theorem dX8_spokenBy_26 : decode cX8_spokenBy 26 = .ok (.getfield 23, 3) := by decide +kernel
theorem dX8_spokenBy_29 : decode cX8_spokenBy 29 = .ok (.iconst 3, 1) := by decide +kernel
theorem dX8_spokenBy_30 : decode cX8_spokenBy 30 = .ok (.iload 4, 2) := by decide +kernel
theorem dX8_spokenBy_32 : decode cX8_spokenBy 32 = .ok (.imul, 1) := by decide +kernel
theorem dX8_spokenBy_33 : decode cX8_spokenBy 33 = .ok (.iaload, 1) := by decide +kernel
theorem dX8_spokenBy_34 : decode cX8_spokenBy 34 = .ok (.iload_n 1, 1) := by decide +kernel
theorem dX8_spokenBy_35 : decode cX8_spokenBy 35 = .ok (.if_icmp .ne 17, 3) := by decide +kernel
theorem dX8_spokenBy_38 : decode cX8_spokenBy 38 = .ok (.aload_n 0, 1) := by decide +kernel
theorem dX8_spokenBy_39 : decode cX8_spokenBy 39 = .ok (.getfield 23, 3) := by decide +kernel
theorem dX8_spokenBy_42 : decode cX8_spokenBy 42 = .ok (.iconst 3, 1) := by decide +kernel
theorem dX8_spokenBy_43 : decode cX8_spokenBy 43 = .ok (.iload 4, 2) := by decide +kernel
theorem dX8_spokenBy_45 : decode cX8_spokenBy 45 = .ok (.imul, 1) := by decide +kernel
theorem dX8_spokenBy_46 : decode cX8_spokenBy 46 = .ok (.iconst 1, 1) := by decide +kernel
theorem dX8_spokenBy_47 : decode cX8_spokenBy 47 = .ok (.iadd, 1) := by decide +kernel
theorem dX8_spokenBy_48 : decode cX8_spokenBy 48 = .ok (.iaload, 1) := by decide +kernel
theorem dX8_spokenBy_49 : decode cX8_spokenBy 49 = .ok (.goto 4, 3) := by decide +kernel
theorem dX8_spokenBy_52 : decode cX8_spokenBy 52 = .ok (.iconst 0, 1) := by decide +kernel
theorem dX8_spokenBy_53 : decode cX8_spokenBy 53 = .ok (.iadd, 1) := by decide +kernel
theorem dX8_spokenBy_54 : decode cX8_spokenBy 54 = .ok (.istore_n 3, 1) := by decide +kernel
theorem dX8_spokenBy_55 : decode cX8_spokenBy 55 = .ok (.iinc 4 1, 3) := by decide +kernel
theorem dX8_spokenBy_58 : decode cX8_spokenBy 58 = .ok (.goto (-53), 3) := by decide +kernel
theorem dX8_spokenBy_61 : decode cX8_spokenBy 61 = .ok (.iload_n 3, 1) := by decide +kernel
theorem dX8_spokenBy_62 : decode cX8_spokenBy 62 = .ok (.ireturn, 1) := by decide +kernel
theorem dX8_endOf_0 : decode cX8_endOf 0 = .ok (.aload_n 0, 1) := by decide +kernel
theorem dX8_endOf_1 : decode cX8_endOf 1 = .ok (.getfield 23, 3) := by decide +kernel
theorem dX8_endOf_4 : decode cX8_endOf 4 = .ok (.iconst 3, 1) := by decide +kernel
theorem dX8_endOf_5 : decode cX8_endOf 5 = .ok (.iload_n 3, 1) := by decide +kernel
theorem dX8_endOf_6 : decode cX8_endOf 6 = .ok (.imul, 1) := by decide +kernel
theorem dX8_endOf_7 : decode cX8_endOf 7 = .ok (.iaload, 1) := by decide +kernel
theorem dX8_endOf_8 : decode cX8_endOf 8 = .ok (.istore 4, 2) := by decide +kernel
theorem dX8_endOf_10 : decode cX8_endOf 10 = .ok (.aload_n 0, 1) := by decide +kernel
theorem dX8_endOf_11 : decode cX8_endOf 11 = .ok (.getfield 23, 3) := by decide +kernel
theorem dX8_endOf_14 : decode cX8_endOf 14 = .ok (.iconst 3, 1) := by decide +kernel
theorem dX8_endOf_15 : decode cX8_endOf 15 = .ok (.iload_n 3, 1) := by decide +kernel
theorem dX8_endOf_16 : decode cX8_endOf 16 = .ok (.imul, 1) := by decide +kernel
theorem dX8_endOf_17 : decode cX8_endOf 17 = .ok (.iconst 1, 1) := by decide +kernel
theorem dX8_endOf_18 : decode cX8_endOf 18 = .ok (.iadd, 1) := by decide +kernel
theorem dX8_endOf_19 : decode cX8_endOf 19 = .ok (.iaload, 1) := by decide +kernel
theorem dX8_endOf_20 : decode cX8_endOf 20 = .ok (.istore 5, 2) := by decide +kernel
theorem dX8_endOf_22 : decode cX8_endOf 22 = .ok (.iload 5, 2) := by decide +kernel
theorem dX8_endOf_24 : decode cX8_endOf 24 = .ok (.aload_n 0, 1) := by decide +kernel
theorem dX8_endOf_25 : decode cX8_endOf 25 = .ok (.getfield 35, 3) := by decide +kernel
theorem dX8_endOf_28 : decode cX8_endOf 28 = .ok (.iload 4, 2) := by decide +kernel
theorem dX8_endOf_30 : decode cX8_endOf 30 = .ok (.iaload, 1) := by decide +kernel
theorem dX8_endOf_31 : decode cX8_endOf 31 = .ok (.isub, 1) := by decide +kernel
theorem dX8_endOf_32 : decode cX8_endOf 32 = .ok (.iconst 2, 1) := by decide +kernel
theorem dX8_endOf_33 : decode cX8_endOf 33 = .ok (.aload_n 0, 1) := by decide +kernel
theorem dX8_endOf_34 : decode cX8_endOf 34 = .ok (.iload 4, 2) := by decide +kernel
theorem dX8_endOf_36 : decode cX8_endOf 36 = .ok (.iload_n 1, 1) := by decide +kernel
theorem dX8_endOf_37 : decode cX8_endOf 37 = .ok (.invokevirtual 120, 3) := by decide +kernel
theorem dX8_endOf_40 : decode cX8_endOf 40 = .ok (.imul, 1) := by decide +kernel
theorem dX8_endOf_41 : decode cX8_endOf 41 = .ok (.iadd, 1) := by decide +kernel
theorem dX8_endOf_42 : decode cX8_endOf 42 = .ok (.istore 6, 2) := by decide +kernel
theorem dX8_endOf_44 : decode cX8_endOf 44 = .ok (.iload 6, 2) := by decide +kernel
theorem dX8_endOf_46 : decode cX8_endOf 46 = .ok (.iload_n 2, 1) := by decide +kernel
theorem dX8_endOf_47 : decode cX8_endOf 47 = .ok (.if_icmp .le 8, 3) := by decide +kernel
theorem dX8_endOf_50 : decode cX8_endOf 50 = .ok (.iload 6, 2) := by decide +kernel
theorem dX8_endOf_52 : decode cX8_endOf 52 = .ok (.goto 4, 3) := by decide +kernel
theorem dX8_endOf_55 : decode cX8_endOf 55 = .ok (.iload_n 2, 1) := by decide +kernel
theorem dX8_endOf_56 : decode cX8_endOf 56 = .ok (.iload 5, 2) := by decide +kernel
theorem dX8_endOf_58 : decode cX8_endOf 58 = .ok (.iadd, 1) := by decide +kernel
theorem dX8_endOf_59 : decode cX8_endOf 59 = .ok (.ireturn, 1) := by decide +kernel
theorem dX8_leastFrom_0 : decode cX8_leastFrom 0 = .ok (.iconst 1, 1) := by decide +kernel
theorem dX8_leastFrom_1 : decode cX8_leastFrom 1 = .ok (.aload_n 0, 1) := by decide +kernel
theorem dX8_leastFrom_2 : decode cX8_leastFrom 2 = .ok (.getfield 117, 3) := by decide +kernel
theorem dX8_leastFrom_5 : decode cX8_leastFrom 5 = .ok (.ishl, 1) := by decide +kernel
theorem dX8_leastFrom_6 : decode cX8_leastFrom 6 = .ok (.iconst 1, 1) := by decide +kernel
theorem dX8_leastFrom_7 : decode cX8_leastFrom 7 = .ok (.isub, 1) := by decide +kernel
theorem dX8_leastFrom_8 : decode cX8_leastFrom 8 = .ok (.istore_n 3, 1) := by decide +kernel
theorem dX8_leastFrom_9 : decode cX8_leastFrom 9 = .ok (.iconst 0, 1) := by decide +kernel
theorem dX8_leastFrom_10 : decode cX8_leastFrom 10 = .ok (.istore 4, 2) := by decide +kernel
theorem dX8_leastFrom_12 : decode cX8_leastFrom 12 = .ok (.iload 4, 2) := by decide +kernel
theorem dX8_leastFrom_14 : decode cX8_leastFrom 14 = .ok (.iload_n 3, 1) := by decide +kernel
theorem dX8_leastFrom_15 : decode cX8_leastFrom 15 = .ok (.if_icmp .gt 28, 3) := by decide +kernel
theorem dX8_leastFrom_18 : decode cX8_leastFrom 18 = .ok (.aload_n 0, 1) := by decide +kernel
theorem dX8_leastFrom_19 : decode cX8_leastFrom 19 = .ok (.getfield 38, 3) := by decide +kernel
theorem dX8_leastFrom_22 : decode cX8_leastFrom 22 = .ok (.iload 4, 2) := by decide +kernel
theorem dX8_leastFrom_24 : decode cX8_leastFrom 24 = .ok (.iload 4, 2) := by decide +kernel
theorem dX8_leastFrom_26 : decode cX8_leastFrom 26 = .ok (.iload_n 1, 1) := by decide +kernel
theorem dX8_leastFrom_27 : decode cX8_leastFrom 27 = .ok (.if_icmp .ne 7, 3) := by decide +kernel
theorem dX8_leastFrom_30 : decode cX8_leastFrom 30 = .ok (.iload_n 2, 1) := by decide +kernel
theorem dX8_leastFrom_31 : decode cX8_leastFrom 31 = .ok (.goto 5, 3) := by decide +kernel
theorem dX8_leastFrom_34 : decode cX8_leastFrom 34 = .ok (.ldc 124, 2) := by decide +kernel
theorem dX8_leastFrom_36 : decode cX8_leastFrom 36 = .ok (.iastore, 1) := by decide +kernel
theorem dX8_leastFrom_37 : decode cX8_leastFrom 37 = .ok (.iinc 4 1, 3) := by decide +kernel
theorem dX8_leastFrom_40 : decode cX8_leastFrom 40 = .ok (.goto (-28), 3) := by decide +kernel
theorem dX8_leastFrom_43 : decode cX8_leastFrom 43 = .ok (.iload_n 1, 1) := by decide +kernel
theorem dX8_leastFrom_44 : decode cX8_leastFrom 44 = .ok (.istore 4, 2) := by decide +kernel
theorem dX8_leastFrom_46 : decode cX8_leastFrom 46 = .ok (.iload 4, 2) := by decide +kernel
theorem dX8_leastFrom_48 : decode cX8_leastFrom 48 = .ok (.iload_n 3, 1) := by decide +kernel
theorem dX8_leastFrom_49 : decode cX8_leastFrom 49 = .ok (.if_icmp .gt 107, 3) := by decide +kernel
theorem dX8_leastFrom_52 : decode cX8_leastFrom 52 = .ok (.iconst 0, 1) := by decide +kernel
theorem dX8_leastFrom_53 : decode cX8_leastFrom 53 = .ok (.istore 5, 2) := by decide +kernel
theorem dX8_leastFrom_55 : decode cX8_leastFrom 55 = .ok (.iload 5, 2) := by decide +kernel
theorem dX8_leastFrom_57 : decode cX8_leastFrom 57 = .ok (.aload_n 0, 1) := by decide +kernel
theorem dX8_leastFrom_58 : decode cX8_leastFrom 58 = .ok (.getfield 117, 3) := by decide +kernel
theorem dX8_leastFrom_61 : decode cX8_leastFrom 61 = .ok (.if_icmp .ge 89, 3) := by decide +kernel
theorem dX8_leastFrom_64 : decode cX8_leastFrom 64 = .ok (.aload_n 0, 1) := by decide +kernel
theorem dX8_leastFrom_65 : decode cX8_leastFrom 65 = .ok (.getfield 38, 3) := by decide +kernel
theorem dX8_leastFrom_68 : decode cX8_leastFrom 68 = .ok (.iload 4, 2) := by decide +kernel
theorem dX8_leastFrom_70 : decode cX8_leastFrom 70 = .ok (.iaload, 1) := by decide +kernel
theorem dX8_leastFrom_71 : decode cX8_leastFrom 71 = .ok (.ldc 124, 2) := by decide +kernel
theorem dX8_leastFrom_73 : decode cX8_leastFrom 73 = .ok (.if_icmp .ge 77, 3) := by decide +kernel
theorem dX8_leastFrom_76 : decode cX8_leastFrom 76 = .ok (.aload_n 0, 1) := by decide +kernel
theorem dX8_leastFrom_77 : decode cX8_leastFrom 77 = .ok (.iload 4, 2) := by decide +kernel
theorem dX8_leastFrom_79 : decode cX8_leastFrom 79 = .ok (.iload 5, 2) := by decide +kernel
theorem dX8_leastFrom_81 : decode cX8_leastFrom 81 = .ok (.invokevirtual 125, 3) := by decide +kernel
theorem dX8_leastFrom_84 : decode cX8_leastFrom 84 = .ok (.ifCond .eq 60, 3) := by decide +kernel
theorem dX8_leastFrom_87 : decode cX8_leastFrom 87 = .ok (.aload_n 0, 1) := by decide +kernel
theorem dX8_leastFrom_88 : decode cX8_leastFrom 88 = .ok (.iload 4, 2) := by decide +kernel
theorem dX8_leastFrom_90 : decode cX8_leastFrom 90 = .ok (.aload_n 0, 1) := by decide +kernel
theorem dX8_leastFrom_91 : decode cX8_leastFrom 91 = .ok (.getfield 38, 3) := by decide +kernel
theorem dX8_leastFrom_94 : decode cX8_leastFrom 94 = .ok (.iload 4, 2) := by decide +kernel
theorem dX8_leastFrom_96 : decode cX8_leastFrom 96 = .ok (.iaload, 1) := by decide +kernel
theorem dX8_leastFrom_97 : decode cX8_leastFrom 97 = .ok (.iload 5, 2) := by decide +kernel
theorem dX8_leastFrom_99 : decode cX8_leastFrom 99 = .ok (.invokevirtual 129, 3) := by decide +kernel
theorem dX8_leastFrom_102 : decode cX8_leastFrom 102 = .ok (.istore 6, 2) := by decide +kernel
theorem dX8_leastFrom_104 : decode cX8_leastFrom 104 = .ok (.iload 4, 2) := by decide +kernel
theorem dX8_leastFrom_106 : decode cX8_leastFrom 106 = .ok (.iconst 1, 1) := by decide +kernel
theorem dX8_leastFrom_107 : decode cX8_leastFrom 107 = .ok (.iload 5, 2) := by decide +kernel
theorem dX8_leastFrom_109 : decode cX8_leastFrom 109 = .ok (.ishl, 1) := by decide +kernel
theorem dX8_leastFrom_110 : decode cX8_leastFrom 110 = .ok (.ior, 1) := by decide +kernel
theorem dX8_leastFrom_111 : decode cX8_leastFrom 111 = .ok (.istore 7, 2) := by decide +kernel
theorem dX8_leastFrom_113 : decode cX8_leastFrom 113 = .ok (.aload_n 0, 1) := by decide +kernel
theorem dX8_leastFrom_114 : decode cX8_leastFrom 114 = .ok (.getfield 38, 3) := by decide +kernel
theorem dX8_leastFrom_117 : decode cX8_leastFrom 117 = .ok (.iload 7, 2) := by decide +kernel
theorem dX8_leastFrom_119 : decode cX8_leastFrom 119 = .ok (.iload 6, 2) := by decide +kernel
theorem dX8_leastFrom_121 : decode cX8_leastFrom 121 = .ok (.aload_n 0, 1) := by decide +kernel
theorem dX8_leastFrom_122 : decode cX8_leastFrom 122 = .ok (.getfield 38, 3) := by decide +kernel
theorem dX8_leastFrom_125 : decode cX8_leastFrom 125 = .ok (.iload 7, 2) := by decide +kernel
theorem dX8_leastFrom_127 : decode cX8_leastFrom 127 = .ok (.iaload, 1) := by decide +kernel
theorem dX8_leastFrom_128 : decode cX8_leastFrom 128 = .ok (.if_icmp .ge 8, 3) := by decide +kernel
theorem dX8_leastFrom_131 : decode cX8_leastFrom 131 = .ok (.iload 6, 2) := by decide +kernel
theorem dX8_leastFrom_133 : decode cX8_leastFrom 133 = .ok (.goto 10, 3) := by decide +kernel
theorem dX8_leastFrom_136 : decode cX8_leastFrom 136 = .ok (.aload_n 0, 1) := by decide +kernel
theorem dX8_leastFrom_137 : decode cX8_leastFrom 137 = .ok (.getfield 38, 3) := by decide +kernel
theorem dX8_leastFrom_140 : decode cX8_leastFrom 140 = .ok (.iload 7, 2) := by decide +kernel
theorem dX8_leastFrom_142 : decode cX8_leastFrom 142 = .ok (.iaload, 1) := by decide +kernel
theorem dX8_leastFrom_143 : decode cX8_leastFrom 143 = .ok (.iastore, 1) := by decide +kernel
theorem dX8_leastFrom_144 : decode cX8_leastFrom 144 = .ok (.iinc 5 1, 3) := by decide +kernel
theorem dX8_leastFrom_147 : decode cX8_leastFrom 147 = .ok (.goto (-92), 3) := by decide +kernel
theorem dX8_leastFrom_150 : decode cX8_leastFrom 150 = .ok (.iinc 4 1, 3) := by decide +kernel
theorem dX8_leastFrom_153 : decode cX8_leastFrom 153 = .ok (.goto (-107), 3) := by decide +kernel
theorem dX8_leastFrom_156 : decode cX8_leastFrom 156 = .ok (.aload_n 0, 1) := by decide +kernel
theorem dX8_leastFrom_157 : decode cX8_leastFrom 157 = .ok (.getfield 38, 3) := by decide +kernel
theorem dX8_leastFrom_160 : decode cX8_leastFrom 160 = .ok (.iload_n 3, 1) := by decide +kernel
theorem dX8_leastFrom_161 : decode cX8_leastFrom 161 = .ok (.iaload, 1) := by decide +kernel
theorem dX8_leastFrom_162 : decode cX8_leastFrom 162 = .ok (.ireturn, 1) := by decide +kernel
theorem dX8_asSaved_0 : decode cX8_asSaved 0 = .ok (.iconst 0, 1) := by decide +kernel
theorem dX8_asSaved_1 : decode cX8_asSaved 1 = .ok (.istore_n 1, 1) := by decide +kernel
theorem dX8_asSaved_2 : decode cX8_asSaved 2 = .ok (.iload_n 1, 1) := by decide +kernel
theorem dX8_asSaved_3 : decode cX8_asSaved 3 = .ok (.bipush 6, 2) := by decide +kernel
theorem dX8_asSaved_5 : decode cX8_asSaved 5 = .ok (.if_icmp .ge 23, 3) := by decide +kernel
theorem dX8_asSaved_8 : decode cX8_asSaved 8 = .ok (.aload_n 0, 1) := by decide +kernel
theorem dX8_asSaved_9 : decode cX8_asSaved 9 = .ok (.getfield 35, 3) := by decide +kernel
theorem dX8_asSaved_12 : decode cX8_asSaved 12 = .ok (.iload_n 1, 1) := by decide +kernel
theorem dX8_asSaved_13 : decode cX8_asSaved 13 = .ok (.aload_n 0, 1) := by decide +kernel
theorem dX8_asSaved_14 : decode cX8_asSaved 14 = .ok (.getfield 7, 3) := by decide +kernel
theorem dX8_asSaved_17 : decode cX8_asSaved 17 = .ok (.iconst 4, 1) := by decide +kernel
theorem dX8_asSaved_18 : decode cX8_asSaved 18 = .ok (.iload_n 1, 1) := by decide +kernel
theorem dX8_asSaved_19 : decode cX8_asSaved 19 = .ok (.imul, 1) := by decide +kernel
theorem dX8_asSaved_20 : decode cX8_asSaved 20 = .ok (.iaload, 1) := by decide +kernel
theorem dX8_asSaved_21 : decode cX8_asSaved 21 = .ok (.iastore, 1) := by decide +kernel
theorem dX8_asSaved_22 : decode cX8_asSaved 22 = .ok (.iinc 1 1, 3) := by decide +kernel
theorem dX8_asSaved_25 : decode cX8_asSaved 25 = .ok (.goto (-23), 3) := by decide +kernel
theorem dX8_asSaved_28 : decode cX8_asSaved 28 = .ok (.return_, 1) := by decide +kernel
theorem dX8_least_0 : decode cX8_least 0 = .ok (.aload_n 0, 1) := by decide +kernel
theorem dX8_least_1 : decode cX8_least 1 = .ok (.invokevirtual 133, 3) := by decide +kernel
theorem dX8_least_4 : decode cX8_least 4 = .ok (.aload_n 0, 1) := by decide +kernel
theorem dX8_least_5 : decode cX8_least 5 = .ok (.iconst 0, 1) := by decide +kernel
theorem dX8_least_6 : decode cX8_least 6 = .ok (.iconst 0, 1) := by decide +kernel
theorem dX8_least_7 : decode cX8_least 7 = .ok (.invokevirtual 136, 3) := by decide +kernel
theorem dX8_least_10 : decode cX8_least 10 = .ok (.istore_n 2, 1) := by decide +kernel
theorem dX8_least_11 : decode cX8_least 11 = .ok (.iload_n 1, 1) := by decide +kernel
theorem dX8_least_12 : decode cX8_least 12 = .ok (.iconst (-1), 1) := by decide +kernel
theorem dX8_least_13 : decode cX8_least 13 = .ok (.if_icmp .ne 5, 3) := by decide +kernel
theorem dX8_least_16 : decode cX8_least 16 = .ok (.iload_n 2, 1) := by decide +kernel
theorem dX8_least_17 : decode cX8_least 17 = .ok (.ireturn, 1) := by decide +kernel
theorem dX8_least_18 : decode cX8_least 18 = .ok (.iload_n 1, 1) := by decide +kernel
theorem dX8_least_19 : decode cX8_least 19 = .ok (.iconst 0, 1) := by decide +kernel
theorem dX8_least_20 : decode cX8_least 20 = .ok (.aload_n 0, 1) := by decide +kernel
theorem dX8_least_21 : decode cX8_least 21 = .ok (.getfield 117, 3) := by decide +kernel
theorem dX8_least_24 : decode cX8_least 24 = .ok (.iconst 1, 1) := by decide +kernel
theorem dX8_least_25 : decode cX8_least 25 = .ok (.isub, 1) := by decide +kernel
theorem dX8_least_26 : decode cX8_least 26 = .ok (.invokestatic 63, 3) := by decide +kernel
theorem dX8_least_29 : decode cX8_least 29 = .ok (.ifCond .ne 6, 3) := by decide +kernel
theorem dX8_least_32 : decode cX8_least 32 = .ok (.bipush (-6), 2) := by decide +kernel
theorem dX8_least_34 : decode cX8_least 34 = .ok (.ireturn, 1) := by decide +kernel
theorem dX8_least_35 : decode cX8_least 35 = .ok (.iconst 0, 1) := by decide +kernel
theorem dX8_least_36 : decode cX8_least 36 = .ok (.istore_n 3, 1) := by decide +kernel
theorem dX8_least_37 : decode cX8_least 37 = .ok (.iconst 0, 1) := by decide +kernel
theorem dX8_least_38 : decode cX8_least 38 = .ok (.istore 4, 2) := by decide +kernel
theorem dX8_least_40 : decode cX8_least 40 = .ok (.bipush (-6), 2) := by decide +kernel
theorem dX8_least_42 : decode cX8_least 42 = .ok (.istore 5, 2) := by decide +kernel
theorem dX8_least_44 : decode cX8_least 44 = .ok (.iconst 0, 1) := by decide +kernel
theorem dX8_least_45 : decode cX8_least 45 = .ok (.istore 6, 2) := by decide +kernel
theorem dX8_least_47 : decode cX8_least 47 = .ok (.iload 6, 2) := by decide +kernel
theorem dX8_least_49 : decode cX8_least 49 = .ok (.iload_n 1, 1) := by decide +kernel
theorem dX8_least_50 : decode cX8_least 50 = .ok (.if_icmp .gt 96, 3) := by decide +kernel
theorem dX8_least_53 : decode cX8_least 53 = .ok (.bipush (-6), 2) := by decide +kernel
theorem dX8_least_55 : decode cX8_least 55 = .ok (.istore 5, 2) := by decide +kernel
theorem dX8_least_57 : decode cX8_least 57 = .ok (.iconst 0, 1) := by decide +kernel
theorem dX8_least_58 : decode cX8_least 58 = .ok (.istore 7, 2) := by decide +kernel
theorem dX8_least_60 : decode cX8_least 60 = .ok (.iconst 0, 1) := by decide +kernel
theorem dX8_least_61 : decode cX8_least 61 = .ok (.istore 8, 2) := by decide +kernel
theorem dX8_least_63 : decode cX8_least 63 = .ok (.iload 8, 2) := by decide +kernel
theorem dX8_least_65 : decode cX8_least 65 = .ok (.aload_n 0, 1) := by decide +kernel
theorem dX8_least_66 : decode cX8_least 66 = .ok (.getfield 117, 3) := by decide +kernel
theorem dX8_least_69 : decode cX8_least 69 = .ok (.if_icmp .ge 60, 3) := by decide +kernel
theorem dX8_least_72 : decode cX8_least 72 = .ok (.iload 5, 2) := by decide +kernel
theorem dX8_least_74 : decode cX8_least 74 = .ok (.ifCond .ge 55, 3) := by decide +kernel
theorem dX8_least_77 : decode cX8_least 77 = .ok (.aload_n 0, 1) := by decide +kernel
theorem dX8_least_78 : decode cX8_least 78 = .ok (.iload_n 3, 1) := by decide +kernel
theorem dX8_least_79 : decode cX8_least 79 = .ok (.iload 8, 2) := by decide +kernel
theorem dX8_least_81 : decode cX8_least 81 = .ok (.invokevirtual 125, 3) := by decide +kernel
theorem dX8_least_84 : decode cX8_least 84 = .ok (.ifCond .eq 39, 3) := by decide +kernel
theorem dX8_least_87 : decode cX8_least 87 = .ok (.aload_n 0, 1) := by decide +kernel
theorem dX8_least_88 : decode cX8_least 88 = .ok (.iload_n 3, 1) := by decide +kernel
theorem dX8_least_89 : decode cX8_least 89 = .ok (.iload 4, 2) := by decide +kernel
theorem dX8_least_91 : decode cX8_least 91 = .ok (.iload 8, 2) := by decide +kernel
theorem dX8_least_93 : decode cX8_least 93 = .ok (.invokevirtual 129, 3) := by decide +kernel
theorem dX8_least_96 : decode cX8_least 96 = .ok (.istore 7, 2) := by decide +kernel
theorem dX8_least_98 : decode cX8_least 98 = .ok (.aload_n 0, 1) := by decide +kernel
theorem dX8_least_99 : decode cX8_least 99 = .ok (.iload_n 3, 1) := by decide +kernel
theorem dX8_least_100 : decode cX8_least 100 = .ok (.iconst 1, 1) := by decide +kernel
theorem dX8_least_101 : decode cX8_least 101 = .ok (.iload 8, 2) := by decide +kernel
theorem dX8_least_103 : decode cX8_least 103 = .ok (.ishl, 1) := by decide +kernel
theorem dX8_least_104 : decode cX8_least 104 = .ok (.ior, 1) := by decide +kernel
theorem dX8_least_105 : decode cX8_least 105 = .ok (.iload 7, 2) := by decide +kernel
theorem dX8_least_107 : decode cX8_least 107 = .ok (.invokevirtual 136, 3) := by decide +kernel
theorem dX8_least_110 : decode cX8_least 110 = .ok (.iload_n 2, 1) := by decide +kernel
theorem dX8_least_111 : decode cX8_least 111 = .ok (.if_icmp .ne 8, 3) := by decide +kernel
theorem dX8_least_114 : decode cX8_least 114 = .ok (.iload 8, 2) := by decide +kernel
theorem dX8_least_116 : decode cX8_least 116 = .ok (.goto 5, 3) := by decide +kernel
theorem dX8_least_119 : decode cX8_least 119 = .ok (.bipush (-6), 2) := by decide +kernel
theorem dX8_least_121 : decode cX8_least 121 = .ok (.istore 5, 2) := by decide +kernel
theorem dX8_least_123 : decode cX8_least 123 = .ok (.iinc 8 1, 3) := by decide +kernel
theorem dX8_least_126 : decode cX8_least 126 = .ok (.goto (-63), 3) := by decide +kernel
theorem dX8_least_129 : decode cX8_least 129 = .ok (.iload_n 3, 1) := by decide +kernel
theorem dX8_least_130 : decode cX8_least 130 = .ok (.iconst 1, 1) := by decide +kernel
theorem dX8_least_131 : decode cX8_least 131 = .ok (.iload 5, 2) := by decide +kernel
theorem dX8_least_133 : decode cX8_least 133 = .ok (.ishl, 1) := by decide +kernel
theorem dX8_least_134 : decode cX8_least 134 = .ok (.ior, 1) := by decide +kernel
theorem dX8_least_135 : decode cX8_least 135 = .ok (.istore_n 3, 1) := by decide +kernel
theorem dX8_least_136 : decode cX8_least 136 = .ok (.iload 7, 2) := by decide +kernel
theorem dX8_least_138 : decode cX8_least 138 = .ok (.istore 4, 2) := by decide +kernel
theorem dX8_least_140 : decode cX8_least 140 = .ok (.iinc 6 1, 3) := by decide +kernel
theorem dX8_least_143 : decode cX8_least 143 = .ok (.goto (-96), 3) := by decide +kernel
theorem dX8_least_146 : decode cX8_least 146 = .ok (.iload 5, 2) := by decide +kernel
theorem dX8_least_148 : decode cX8_least 148 = .ok (.ireturn, 1) := by decide +kernel
theorem dX8_dealt_0 : decode cX8_dealt 0 = .ok (.iload_n 2, 1) := by decide +kernel
theorem dX8_dealt_1 : decode cX8_dealt 1 = .ok (.iconst (-1), 1) := by decide +kernel
theorem dX8_dealt_2 : decode cX8_dealt 2 = .ok (.if_icmp .eq 12, 3) := by decide +kernel
theorem dX8_dealt_5 : decode cX8_dealt 5 = .ok (.iload_n 2, 1) := by decide +kernel
theorem dX8_dealt_6 : decode cX8_dealt 6 = .ok (.invokestatic 67, 3) := by decide +kernel
theorem dX8_dealt_9 : decode cX8_dealt 9 = .ok (.ifCond .ne 5, 3) := by decide +kernel
theorem dX8_dealt_12 : decode cX8_dealt 12 = .ok (.iconst (-1), 1) := by decide +kernel
theorem dX8_dealt_13 : decode cX8_dealt 13 = .ok (.ireturn, 1) := by decide +kernel
theorem dX8_dealt_14 : decode cX8_dealt 14 = .ok (.iload_n 1, 1) := by decide +kernel
theorem dX8_dealt_15 : decode cX8_dealt 15 = .ok (.iconst 0, 1) := by decide +kernel
theorem dX8_dealt_16 : decode cX8_dealt 16 = .ok (.bipush 20, 2) := by decide +kernel
theorem dX8_dealt_18 : decode cX8_dealt 18 = .ok (.invokestatic 63, 3) := by decide +kernel
theorem dX8_dealt_21 : decode cX8_dealt 21 = .ok (.ifCond .ne 6, 3) := by decide +kernel
theorem dX8_dealt_24 : decode cX8_dealt 24 = .ok (.bipush (-2), 2) := by decide +kernel
theorem dX8_dealt_26 : decode cX8_dealt 26 = .ok (.ireturn, 1) := by decide +kernel
theorem dX8_dealt_27 : decode cX8_dealt 27 = .ok (.iconst 0, 1) := by decide +kernel
theorem dX8_dealt_28 : decode cX8_dealt 28 = .ok (.istore_n 3, 1) := by decide +kernel
theorem dX8_dealt_29 : decode cX8_dealt 29 = .ok (.iconst 0, 1) := by decide +kernel
theorem dX8_dealt_30 : decode cX8_dealt 30 = .ok (.istore 4, 2) := by decide +kernel
theorem dX8_dealt_32 : decode cX8_dealt 32 = .ok (.iload 4, 2) := by decide +kernel
theorem dX8_dealt_34 : decode cX8_dealt 34 = .ok (.bipush 6, 2) := by decide +kernel
theorem dX8_dealt_36 : decode cX8_dealt 36 = .ok (.if_icmp .ge 57, 3) := by decide +kernel
theorem dX8_dealt_39 : decode cX8_dealt 39 = .ok (.aload_n 0, 1) := by decide +kernel
theorem dX8_dealt_40 : decode cX8_dealt 40 = .ok (.iload 4, 2) := by decide +kernel
theorem dX8_dealt_42 : decode cX8_dealt 42 = .ok (.sipush 255, 3) := by decide +kernel
theorem dX8_dealt_45 : decode cX8_dealt 45 = .ok (.invokevirtual 120, 3) := by decide +kernel
theorem dX8_dealt_48 : decode cX8_dealt 48 = .ok (.ifCond .le 7, 3) := by decide +kernel
theorem dX8_dealt_51 : decode cX8_dealt 51 = .ok (.iconst 1, 1) := by decide +kernel
theorem dX8_dealt_52 : decode cX8_dealt 52 = .ok (.goto 4, 3) := by decide +kernel
theorem dX8_dealt_55 : decode cX8_dealt 55 = .ok (.iconst 0, 1) := by decide +kernel
theorem dX8_dealt_56 : decode cX8_dealt 56 = .ok (.istore 5, 2) := by decide +kernel
theorem dX8_dealt_58 : decode cX8_dealt 58 = .ok (.iload 5, 2) := by decide +kernel
theorem dX8_dealt_60 : decode cX8_dealt 60 = .ok (.ifCond .eq 11, 3) := by decide +kernel
theorem dX8_dealt_63 : decode cX8_dealt 63 = .ok (.iload_n 3, 1) := by decide +kernel
theorem dX8_dealt_64 : decode cX8_dealt 64 = .ok (.iconst 4, 1) := by decide +kernel
theorem dX8_dealt_65 : decode cX8_dealt 65 = .ok (.if_icmp .ne 6, 3) := by decide +kernel
theorem dX8_dealt_68 : decode cX8_dealt 68 = .ok (.bipush (-5), 2) := by decide +kernel
theorem dX8_dealt_70 : decode cX8_dealt 70 = .ok (.ireturn, 1) := by decide +kernel
theorem dX8_dealt_71 : decode cX8_dealt 71 = .ok (.iload 5, 2) := by decide +kernel
theorem dX8_dealt_73 : decode cX8_dealt 73 = .ok (.ifCond .eq 14, 3) := by decide +kernel
theorem dX8_dealt_76 : decode cX8_dealt 76 = .ok (.aload_n 0, 1) := by decide +kernel
theorem dX8_dealt_77 : decode cX8_dealt 77 = .ok (.getfield 41, 3) := by decide +kernel
theorem dX8_dealt_80 : decode cX8_dealt 80 = .ok (.iload_n 3, 1) := by decide +kernel
theorem dX8_dealt_81 : decode cX8_dealt 81 = .ok (.iload 4, 2) := by decide +kernel
theorem dX8_dealt_83 : decode cX8_dealt 83 = .ok (.iastore, 1) := by decide +kernel
theorem dX8_dealt_84 : decode cX8_dealt 84 = .ok (.iinc 3 1, 3) := by decide +kernel
theorem dX8_dealt_87 : decode cX8_dealt 87 = .ok (.iinc 4 1, 3) := by decide +kernel
theorem dX8_dealt_90 : decode cX8_dealt 90 = .ok (.goto (-58), 3) := by decide +kernel
theorem dX8_dealt_93 : decode cX8_dealt 93 = .ok (.iload_n 3, 1) := by decide +kernel
theorem dX8_dealt_94 : decode cX8_dealt 94 = .ok (.ifCond .ne 6, 3) := by decide +kernel
theorem dX8_dealt_97 : decode cX8_dealt 97 = .ok (.bipush (-5), 2) := by decide +kernel
theorem dX8_dealt_99 : decode cX8_dealt 99 = .ok (.ireturn, 1) := by decide +kernel
theorem dX8_dealt_100 : decode cX8_dealt 100 = .ok (.aload_n 0, 1) := by decide +kernel
theorem dX8_dealt_101 : decode cX8_dealt 101 = .ok (.invokevirtual 133, 3) := by decide +kernel
theorem dX8_dealt_104 : decode cX8_dealt 104 = .ok (.ldc 124, 2) := by decide +kernel
theorem dX8_dealt_106 : decode cX8_dealt 106 = .ok (.istore 4, 2) := by decide +kernel
theorem dX8_dealt_108 : decode cX8_dealt 108 = .ok (.iload_n 1, 1) := by decide +kernel
theorem dX8_dealt_109 : decode cX8_dealt 109 = .ok (.istore 5, 2) := by decide +kernel
theorem dX8_dealt_111 : decode cX8_dealt 111 = .ok (.iload 5, 2) := by decide +kernel
theorem dX8_dealt_113 : decode cX8_dealt 113 = .ok (.ifCond .lt 212, 3) := by decide +kernel
theorem dX8_dealt_116 : decode cX8_dealt 116 = .ok (.iload_n 1, 1) := by decide +kernel
theorem dX8_dealt_117 : decode cX8_dealt 117 = .ok (.iload 5, 2) := by decide +kernel
theorem dX8_dealt_119 : decode cX8_dealt 119 = .ok (.isub, 1) := by decide +kernel
theorem dX8_dealt_120 : decode cX8_dealt 120 = .ok (.istore 6, 2) := by decide +kernel
theorem dX8_dealt_122 : decode cX8_dealt 122 = .ok (.iload 6, 2) := by decide +kernel
theorem dX8_dealt_124 : decode cX8_dealt 124 = .ok (.ifCond .lt 195, 3) := by decide +kernel
theorem dX8_dealt_127 : decode cX8_dealt 127 = .ok (.iload_n 1, 1) := by decide +kernel
theorem dX8_dealt_128 : decode cX8_dealt 128 = .ok (.iload 5, 2) := by decide +kernel
theorem dX8_dealt_130 : decode cX8_dealt 130 = .ok (.isub, 1) := by decide +kernel
theorem dX8_dealt_131 : decode cX8_dealt 131 = .ok (.iload 6, 2) := by decide +kernel
theorem dX8_dealt_133 : decode cX8_dealt 133 = .ok (.isub, 1) := by decide +kernel
theorem dX8_dealt_134 : decode cX8_dealt 134 = .ok (.istore 7, 2) := by decide +kernel
theorem dX8_dealt_136 : decode cX8_dealt 136 = .ok (.iload 7, 2) := by decide +kernel
theorem dX8_dealt_138 : decode cX8_dealt 138 = .ok (.ifCond .lt 175, 3) := by decide +kernel
theorem dX8_dealt_141 : decode cX8_dealt 141 = .ok (.iload_n 1, 1) := by decide +kernel
theorem dX8_dealt_142 : decode cX8_dealt 142 = .ok (.iload 5, 2) := by decide +kernel
theorem dX8_dealt_144 : decode cX8_dealt 144 = .ok (.isub, 1) := by decide +kernel
theorem dX8_dealt_145 : decode cX8_dealt 145 = .ok (.iload 6, 2) := by decide +kernel
theorem dX8_dealt_147 : decode cX8_dealt 147 = .ok (.isub, 1) := by decide +kernel
theorem dX8_dealt_148 : decode cX8_dealt 148 = .ok (.iload 7, 2) := by decide +kernel
theorem dX8_dealt_150 : decode cX8_dealt 150 = .ok (.isub, 1) := by decide +kernel
theorem dX8_dealt_151 : decode cX8_dealt 151 = .ok (.istore 8, 2) := by decide +kernel
theorem dX8_dealt_153 : decode cX8_dealt 153 = .ok (.iload_n 3, 1) := by decide +kernel
theorem dX8_dealt_154 : decode cX8_dealt 154 = .ok (.iconst 1, 1) := by decide +kernel
theorem dX8_dealt_155 : decode cX8_dealt 155 = .ok (.if_icmp .gt 8, 3) := by decide +kernel
theorem dX8_dealt_158 : decode cX8_dealt 158 = .ok (.iload 6, 2) := by decide +kernel
theorem dX8_dealt_160 : decode cX8_dealt 160 = .ok (.ifCond .ne 27, 3) := by decide +kernel
theorem dX8_dealt_163 : decode cX8_dealt 163 = .ok (.iload_n 3, 1) := by decide +kernel
theorem dX8_dealt_164 : decode cX8_dealt 164 = .ok (.iconst 2, 1) := by decide +kernel
theorem dX8_dealt_165 : decode cX8_dealt 165 = .ok (.if_icmp .gt 8, 3) := by decide +kernel
theorem dX8_dealt_168 : decode cX8_dealt 168 = .ok (.iload 7, 2) := by decide +kernel
theorem dX8_dealt_170 : decode cX8_dealt 170 = .ok (.ifCond .ne 17, 3) := by decide +kernel
theorem dX8_dealt_173 : decode cX8_dealt 173 = .ok (.iload_n 3, 1) := by decide +kernel
theorem dX8_dealt_174 : decode cX8_dealt 174 = .ok (.iconst 3, 1) := by decide +kernel
theorem dX8_dealt_175 : decode cX8_dealt 175 = .ok (.if_icmp .gt 8, 3) := by decide +kernel
theorem dX8_dealt_178 : decode cX8_dealt 178 = .ok (.iload 8, 2) := by decide +kernel
theorem dX8_dealt_180 : decode cX8_dealt 180 = .ok (.ifCond .ne 7, 3) := by decide +kernel
theorem dX8_dealt_183 : decode cX8_dealt 183 = .ok (.iconst 1, 1) := by decide +kernel
theorem dX8_dealt_184 : decode cX8_dealt 184 = .ok (.goto 4, 3) := by decide +kernel
theorem dX8_dealt_187 : decode cX8_dealt 187 = .ok (.iconst 0, 1) := by decide +kernel
theorem dX8_dealt_188 : decode cX8_dealt 188 = .ok (.istore 9, 2) := by decide +kernel
theorem dX8_dealt_190 : decode cX8_dealt 190 = .ok (.iload 9, 2) := by decide +kernel
theorem dX8_dealt_192 : decode cX8_dealt 192 = .ok (.ifCond .eq 115, 3) := by decide +kernel
theorem dX8_dealt_195 : decode cX8_dealt 195 = .ok (.iconst 0, 1) := by decide +kernel
theorem dX8_dealt_196 : decode cX8_dealt 196 = .ok (.istore 10, 2) := by decide +kernel
theorem dX8_dealt_198 : decode cX8_dealt 198 = .ok (.iload 10, 2) := by decide +kernel
theorem dX8_dealt_200 : decode cX8_dealt 200 = .ok (.iload_n 3, 1) := by decide +kernel
theorem dX8_dealt_201 : decode cX8_dealt 201 = .ok (.if_icmp .ge 55, 3) := by decide +kernel
theorem dX8_dealt_204 : decode cX8_dealt 204 = .ok (.aload_n 0, 1) := by decide +kernel
theorem dX8_dealt_205 : decode cX8_dealt 205 = .ok (.getfield 35, 3) := by decide +kernel
theorem dX8_dealt_208 : decode cX8_dealt 208 = .ok (.aload_n 0, 1) := by decide +kernel
theorem dX8_dealt_209 : decode cX8_dealt 209 = .ok (.getfield 41, 3) := by decide +kernel
theorem dX8_dealt_212 : decode cX8_dealt 212 = .ok (.iload 10, 2) := by decide +kernel
theorem dX8_dealt_214 : decode cX8_dealt 214 = .ok (.iaload, 1) := by decide +kernel
theorem dX8_dealt_215 : decode cX8_dealt 215 = .ok (.iload 10, 2) := by decide +kernel
theorem dX8_dealt_217 : decode cX8_dealt 217 = .ok (.ifCond .ne 8, 3) := by decide +kernel
theorem dX8_dealt_220 : decode cX8_dealt 220 = .ok (.iload 5, 2) := by decide +kernel
theorem dX8_dealt_222 : decode cX8_dealt 222 = .ok (.goto 27, 3) := by decide +kernel
theorem dX8_dealt_225 : decode cX8_dealt 225 = .ok (.iload 10, 2) := by decide +kernel
theorem dX8_dealt_227 : decode cX8_dealt 227 = .ok (.iconst 1, 1) := by decide +kernel
theorem dX8_dealt_228 : decode cX8_dealt 228 = .ok (.if_icmp .ne 8, 3) := by decide +kernel
theorem dX8_dealt_231 : decode cX8_dealt 231 = .ok (.iload 6, 2) := by decide +kernel
theorem dX8_dealt_233 : decode cX8_dealt 233 = .ok (.goto 16, 3) := by decide +kernel
theorem dX8_dealt_236 : decode cX8_dealt 236 = .ok (.iload 10, 2) := by decide +kernel
theorem dX8_dealt_238 : decode cX8_dealt 238 = .ok (.iconst 2, 1) := by decide +kernel
theorem dX8_dealt_239 : decode cX8_dealt 239 = .ok (.if_icmp .ne 8, 3) := by decide +kernel
theorem dX8_dealt_242 : decode cX8_dealt 242 = .ok (.iload 7, 2) := by decide +kernel
theorem dX8_dealt_244 : decode cX8_dealt 244 = .ok (.goto 5, 3) := by decide +kernel
theorem dX8_dealt_247 : decode cX8_dealt 247 = .ok (.iload 8, 2) := by decide +kernel
theorem dX8_dealt_249 : decode cX8_dealt 249 = .ok (.iastore, 1) := by decide +kernel
theorem dX8_dealt_250 : decode cX8_dealt 250 = .ok (.iinc 10 1, 3) := by decide +kernel
theorem dX8_dealt_253 : decode cX8_dealt 253 = .ok (.goto (-55), 3) := by decide +kernel
theorem dX8_dealt_256 : decode cX8_dealt 256 = .ok (.aload_n 0, 1) := by decide +kernel
theorem dX8_dealt_257 : decode cX8_dealt 257 = .ok (.iconst 0, 1) := by decide +kernel
theorem dX8_dealt_258 : decode cX8_dealt 258 = .ok (.iconst 0, 1) := by decide +kernel
theorem dX8_dealt_259 : decode cX8_dealt 259 = .ok (.invokevirtual 136, 3) := by decide +kernel
theorem dX8_dealt_262 : decode cX8_dealt 262 = .ok (.istore 10, 2) := by decide +kernel
theorem dX8_dealt_264 : decode cX8_dealt 264 = .ok (.iload 10, 2) := by decide +kernel
theorem dX8_dealt_266 : decode cX8_dealt 266 = .ok (.iload 4, 2) := by decide +kernel
theorem dX8_dealt_268 : decode cX8_dealt 268 = .ok (.if_icmp .ge 39, 3) := by decide +kernel
theorem dX8_dealt_271 : decode cX8_dealt 271 = .ok (.iload 10, 2) := by decide +kernel
theorem dX8_dealt_273 : decode cX8_dealt 273 = .ok (.istore 4, 2) := by decide +kernel
theorem dX8_dealt_275 : decode cX8_dealt 275 = .ok (.aload_n 0, 1) := by decide +kernel
theorem dX8_dealt_276 : decode cX8_dealt 276 = .ok (.getfield 44, 3) := by decide +kernel
theorem dX8_dealt_279 : decode cX8_dealt 279 = .ok (.iconst 0, 1) := by decide +kernel
theorem dX8_dealt_280 : decode cX8_dealt 280 = .ok (.iload 5, 2) := by decide +kernel
theorem dX8_dealt_282 : decode cX8_dealt 282 = .ok (.iastore, 1) := by decide +kernel
theorem dX8_dealt_283 : decode cX8_dealt 283 = .ok (.aload_n 0, 1) := by decide +kernel
theorem dX8_dealt_284 : decode cX8_dealt 284 = .ok (.getfield 44, 3) := by decide +kernel
theorem dX8_dealt_287 : decode cX8_dealt 287 = .ok (.iconst 1, 1) := by decide +kernel
theorem dX8_dealt_288 : decode cX8_dealt 288 = .ok (.iload 6, 2) := by decide +kernel
theorem dX8_dealt_290 : decode cX8_dealt 290 = .ok (.iastore, 1) := by decide +kernel
theorem dX8_dealt_291 : decode cX8_dealt 291 = .ok (.aload_n 0, 1) := by decide +kernel
theorem dX8_dealt_292 : decode cX8_dealt 292 = .ok (.getfield 44, 3) := by decide +kernel
theorem dX8_dealt_295 : decode cX8_dealt 295 = .ok (.iconst 2, 1) := by decide +kernel
theorem dX8_dealt_296 : decode cX8_dealt 296 = .ok (.iload 7, 2) := by decide +kernel
theorem dX8_dealt_298 : decode cX8_dealt 298 = .ok (.iastore, 1) := by decide +kernel
theorem dX8_dealt_299 : decode cX8_dealt 299 = .ok (.aload_n 0, 1) := by decide +kernel
theorem dX8_dealt_300 : decode cX8_dealt 300 = .ok (.getfield 44, 3) := by decide +kernel
theorem dX8_dealt_303 : decode cX8_dealt 303 = .ok (.iconst 3, 1) := by decide +kernel
theorem dX8_dealt_304 : decode cX8_dealt 304 = .ok (.iload 8, 2) := by decide +kernel
theorem dX8_dealt_306 : decode cX8_dealt 306 = .ok (.iastore, 1) := by decide +kernel
theorem dX8_dealt_307 : decode cX8_dealt 307 = .ok (.iinc 7 (-1), 3) := by decide +kernel
theorem dX8_dealt_310 : decode cX8_dealt 310 = .ok (.goto (-174), 3) := by decide +kernel
theorem dX8_dealt_313 : decode cX8_dealt 313 = .ok (.iinc 6 (-1), 3) := by decide +kernel
theorem dX8_dealt_316 : decode cX8_dealt 316 = .ok (.goto (-194), 3) := by decide +kernel
theorem dX8_dealt_319 : decode cX8_dealt 319 = .ok (.iinc 5 (-1), 3) := by decide +kernel
theorem dX8_dealt_322 : decode cX8_dealt 322 = .ok (.goto (-211), 3) := by decide +kernel
theorem dX8_dealt_325 : decode cX8_dealt 325 = .ok (.iload_n 2, 1) := by decide +kernel
theorem dX8_dealt_326 : decode cX8_dealt 326 = .ok (.iconst (-1), 1) := by decide +kernel
theorem dX8_dealt_327 : decode cX8_dealt 327 = .ok (.if_icmp .ne 6, 3) := by decide +kernel
theorem dX8_dealt_330 : decode cX8_dealt 330 = .ok (.iload 4, 2) := by decide +kernel
theorem dX8_dealt_332 : decode cX8_dealt 332 = .ok (.ireturn, 1) := by decide +kernel
theorem dX8_dealt_333 : decode cX8_dealt 333 = .ok (.bipush (-6), 2) := by decide +kernel
theorem dX8_dealt_335 : decode cX8_dealt 335 = .ok (.istore 5, 2) := by decide +kernel
theorem dX8_dealt_337 : decode cX8_dealt 337 = .ok (.iconst 0, 1) := by decide +kernel
theorem dX8_dealt_338 : decode cX8_dealt 338 = .ok (.istore 6, 2) := by decide +kernel
theorem dX8_dealt_340 : decode cX8_dealt 340 = .ok (.iload 6, 2) := by decide +kernel
theorem dX8_dealt_342 : decode cX8_dealt 342 = .ok (.iload_n 3, 1) := by decide +kernel
theorem dX8_dealt_343 : decode cX8_dealt 343 = .ok (.if_icmp .ge 34, 3) := by decide +kernel
theorem dX8_dealt_346 : decode cX8_dealt 346 = .ok (.aload_n 0, 1) := by decide +kernel
theorem dX8_dealt_347 : decode cX8_dealt 347 = .ok (.getfield 41, 3) := by decide +kernel
theorem dX8_dealt_350 : decode cX8_dealt 350 = .ok (.iload 6, 2) := by decide +kernel
theorem dX8_dealt_352 : decode cX8_dealt 352 = .ok (.iaload, 1) := by decide +kernel
theorem dX8_dealt_353 : decode cX8_dealt 353 = .ok (.iload_n 2, 1) := by decide +kernel
theorem dX8_dealt_354 : decode cX8_dealt 354 = .ok (.if_icmp .ne 13, 3) := by decide +kernel
theorem dX8_dealt_357 : decode cX8_dealt 357 = .ok (.aload_n 0, 1) := by decide +kernel
theorem dX8_dealt_358 : decode cX8_dealt 358 = .ok (.getfield 44, 3) := by decide +kernel
theorem dX8_dealt_361 : decode cX8_dealt 361 = .ok (.iload 6, 2) := by decide +kernel
theorem dX8_dealt_363 : decode cX8_dealt 363 = .ok (.iaload, 1) := by decide +kernel
theorem dX8_dealt_364 : decode cX8_dealt 364 = .ok (.goto 5, 3) := by decide +kernel
theorem dX8_dealt_367 : decode cX8_dealt 367 = .ok (.iload 5, 2) := by decide +kernel
theorem dX8_dealt_369 : decode cX8_dealt 369 = .ok (.istore 5, 2) := by decide +kernel
theorem dX8_dealt_371 : decode cX8_dealt 371 = .ok (.iinc 6 1, 3) := by decide +kernel
theorem dX8_dealt_374 : decode cX8_dealt 374 = .ok (.goto (-34), 3) := by decide +kernel
theorem dX8_dealt_377 : decode cX8_dealt 377 = .ok (.iload 5, 2) := by decide +kernel
theorem dX8_dealt_379 : decode cX8_dealt 379 = .ok (.ireturn, 1) := by decide +kernel
theorem dX8_lend_0 : decode cX8_lend 0 = .ok (.iload_n 1, 1) := by decide +kernel
theorem dX8_lend_1 : decode cX8_lend 1 = .ok (.invokestatic 67, 3) := by decide +kernel
theorem dX8_lend_4 : decode cX8_lend 4 = .ok (.ifCond .eq 15, 3) := by decide +kernel
theorem dX8_lend_7 : decode cX8_lend 7 = .ok (.iload_n 2, 1) := by decide +kernel
theorem dX8_lend_8 : decode cX8_lend 8 = .ok (.invokestatic 67, 3) := by decide +kernel
theorem dX8_lend_11 : decode cX8_lend 11 = .ok (.ifCond .eq 8, 3) := by decide +kernel
theorem dX8_lend_14 : decode cX8_lend 14 = .ok (.iload_n 1, 1) := by decide +kernel
theorem dX8_lend_15 : decode cX8_lend 15 = .ok (.iload_n 2, 1) := by decide +kernel
theorem dX8_lend_16 : decode cX8_lend 16 = .ok (.if_icmp .ne 5, 3) := by decide +kernel
theorem dX8_lend_19 : decode cX8_lend 19 = .ok (.iconst (-1), 1) := by decide +kernel
theorem dX8_lend_20 : decode cX8_lend 20 = .ok (.ireturn, 1) := by decide +kernel
theorem dX8_lend_21 : decode cX8_lend 21 = .ok (.iload_n 3, 1) := by decide +kernel
theorem dX8_lend_22 : decode cX8_lend 22 = .ok (.iconst 0, 1) := by decide +kernel
theorem dX8_lend_23 : decode cX8_lend 23 = .ok (.bipush 99, 2) := by decide +kernel
theorem dX8_lend_25 : decode cX8_lend 25 = .ok (.invokestatic 63, 3) := by decide +kernel
theorem dX8_lend_28 : decode cX8_lend 28 = .ok (.ifCond .ne 6, 3) := by decide +kernel
theorem dX8_lend_31 : decode cX8_lend 31 = .ok (.bipush (-2), 2) := by decide +kernel
theorem dX8_lend_33 : decode cX8_lend 33 = .ok (.ireturn, 1) := by decide +kernel
theorem dX8_lend_34 : decode cX8_lend 34 = .ok (.aload_n 0, 1) := by decide +kernel
theorem dX8_lend_35 : decode cX8_lend 35 = .ok (.getfield 26, 3) := by decide +kernel
theorem dX8_lend_38 : decode cX8_lend 38 = .ok (.bipush 6, 2) := by decide +kernel
theorem dX8_lend_40 : decode cX8_lend 40 = .ok (.iload_n 1, 1) := by decide +kernel
theorem dX8_lend_41 : decode cX8_lend 41 = .ok (.imul, 1) := by decide +kernel
theorem dX8_lend_42 : decode cX8_lend 42 = .ok (.iload_n 2, 1) := by decide +kernel
theorem dX8_lend_43 : decode cX8_lend 43 = .ok (.iadd, 1) := by decide +kernel
theorem dX8_lend_44 : decode cX8_lend 44 = .ok (.iaload, 1) := by decide +kernel
theorem dX8_lend_45 : decode cX8_lend 45 = .ok (.istore 4, 2) := by decide +kernel
theorem dX8_lend_47 : decode cX8_lend 47 = .ok (.aload_n 0, 1) := by decide +kernel
theorem dX8_lend_48 : decode cX8_lend 48 = .ok (.getfield 26, 3) := by decide +kernel
theorem dX8_lend_51 : decode cX8_lend 51 = .ok (.bipush 6, 2) := by decide +kernel
theorem dX8_lend_53 : decode cX8_lend 53 = .ok (.iload_n 1, 1) := by decide +kernel
theorem dX8_lend_54 : decode cX8_lend 54 = .ok (.imul, 1) := by decide +kernel
theorem dX8_lend_55 : decode cX8_lend 55 = .ok (.iload_n 2, 1) := by decide +kernel
theorem dX8_lend_56 : decode cX8_lend 56 = .ok (.iadd, 1) := by decide +kernel
theorem dX8_lend_57 : decode cX8_lend 57 = .ok (.iload_n 3, 1) := by decide +kernel
theorem dX8_lend_58 : decode cX8_lend 58 = .ok (.iastore, 1) := by decide +kernel
theorem dX8_lend_59 : decode cX8_lend 59 = .ok (.iload 4, 2) := by decide +kernel
theorem dX8_lend_61 : decode cX8_lend 61 = .ok (.ireturn, 1) := by decide +kernel
theorem dX8_netOf_0 : decode cX8_netOf 0 = .ok (.iconst 0, 1) := by decide +kernel
theorem dX8_netOf_1 : decode cX8_netOf 1 = .ok (.istore_n 2, 1) := by decide +kernel
theorem dX8_netOf_2 : decode cX8_netOf 2 = .ok (.iconst 0, 1) := by decide +kernel
theorem dX8_netOf_3 : decode cX8_netOf 3 = .ok (.istore_n 3, 1) := by decide +kernel
theorem dX8_netOf_4 : decode cX8_netOf 4 = .ok (.iload_n 3, 1) := by decide +kernel
theorem dX8_netOf_5 : decode cX8_netOf 5 = .ok (.bipush 6, 2) := by decide +kernel
theorem dX8_netOf_7 : decode cX8_netOf 7 = .ok (.if_icmp .ge 35, 3) := by decide +kernel
theorem dX8_netOf_10 : decode cX8_netOf 10 = .ok (.iload_n 2, 1) := by decide +kernel
theorem dX8_netOf_11 : decode cX8_netOf 11 = .ok (.aload_n 0, 1) := by decide +kernel
theorem dX8_netOf_12 : decode cX8_netOf 12 = .ok (.getfield 26, 3) := by decide +kernel
theorem dX8_netOf_15 : decode cX8_netOf 15 = .ok (.bipush 6, 2) := by decide +kernel
theorem dX8_netOf_17 : decode cX8_netOf 17 = .ok (.iload_n 1, 1) := by decide +kernel
theorem dX8_netOf_18 : decode cX8_netOf 18 = .ok (.imul, 1) := by decide +kernel
theorem dX8_netOf_19 : decode cX8_netOf 19 = .ok (.iload_n 3, 1) := by decide +kernel
theorem dX8_netOf_20 : decode cX8_netOf 20 = .ok (.iadd, 1) := by decide +kernel
theorem dX8_netOf_21 : decode cX8_netOf 21 = .ok (.iaload, 1) := by decide +kernel
theorem dX8_netOf_22 : decode cX8_netOf 22 = .ok (.aload_n 0, 1) := by decide +kernel
theorem dX8_netOf_23 : decode cX8_netOf 23 = .ok (.getfield 26, 3) := by decide +kernel
theorem dX8_netOf_26 : decode cX8_netOf 26 = .ok (.bipush 6, 2) := by decide +kernel
theorem dX8_netOf_28 : decode cX8_netOf 28 = .ok (.iload_n 3, 1) := by decide +kernel
theorem dX8_netOf_29 : decode cX8_netOf 29 = .ok (.imul, 1) := by decide +kernel
theorem dX8_netOf_30 : decode cX8_netOf 30 = .ok (.iload_n 1, 1) := by decide +kernel
theorem dX8_netOf_31 : decode cX8_netOf 31 = .ok (.iadd, 1) := by decide +kernel
theorem dX8_netOf_32 : decode cX8_netOf 32 = .ok (.iaload, 1) := by decide +kernel
theorem dX8_netOf_33 : decode cX8_netOf 33 = .ok (.isub, 1) := by decide +kernel
theorem dX8_netOf_34 : decode cX8_netOf 34 = .ok (.iadd, 1) := by decide +kernel
theorem dX8_netOf_35 : decode cX8_netOf 35 = .ok (.istore_n 2, 1) := by decide +kernel
theorem dX8_netOf_36 : decode cX8_netOf 36 = .ok (.iinc 3 1, 3) := by decide +kernel
theorem dX8_netOf_39 : decode cX8_netOf 39 = .ok (.goto (-35), 3) := by decide +kernel
theorem dX8_netOf_42 : decode cX8_netOf 42 = .ok (.iload_n 2, 1) := by decide +kernel
theorem dX8_netOf_43 : decode cX8_netOf 43 = .ok (.ireturn, 1) := by decide +kernel
theorem dX8_net_0 : decode cX8_net 0 = .ok (.iload_n 1, 1) := by decide +kernel
theorem dX8_net_1 : decode cX8_net 1 = .ok (.invokestatic 67, 3) := by decide +kernel
theorem dX8_net_4 : decode cX8_net 4 = .ok (.ifCond .eq 15, 3) := by decide +kernel
theorem dX8_net_7 : decode cX8_net 7 = .ok (.aload_n 0, 1) := by decide +kernel
theorem dX8_net_8 : decode cX8_net 8 = .ok (.iload_n 1, 1) := by decide +kernel
theorem dX8_net_9 : decode cX8_net 9 = .ok (.invokevirtual 139, 3) := by decide +kernel
theorem dX8_net_12 : decode cX8_net 12 = .ok (.sipush 1000, 3) := by decide +kernel
theorem dX8_net_15 : decode cX8_net 15 = .ok (.iadd, 1) := by decide +kernel
theorem dX8_net_16 : decode cX8_net 16 = .ok (.goto 4, 3) := by decide +kernel
theorem dX8_net_19 : decode cX8_net 19 = .ok (.iconst (-1), 1) := by decide +kernel
theorem dX8_net_20 : decode cX8_net 20 = .ok (.ireturn, 1) := by decide +kernel
theorem dX8_gifts_0 : decode cX8_gifts 0 = .ok (.iconst 0, 1) := by decide +kernel
theorem dX8_gifts_1 : decode cX8_gifts 1 = .ok (.istore_n 1, 1) := by decide +kernel
theorem dX8_gifts_2 : decode cX8_gifts 2 = .ok (.iconst 0, 1) := by decide +kernel
theorem dX8_gifts_3 : decode cX8_gifts 3 = .ok (.istore_n 2, 1) := by decide +kernel
theorem dX8_gifts_4 : decode cX8_gifts 4 = .ok (.iconst 0, 1) := by decide +kernel
theorem dX8_gifts_5 : decode cX8_gifts 5 = .ok (.istore_n 3, 1) := by decide +kernel
theorem dX8_gifts_6 : decode cX8_gifts 6 = .ok (.iload_n 3, 1) := by decide +kernel
theorem dX8_gifts_7 : decode cX8_gifts 7 = .ok (.bipush 6, 2) := by decide +kernel
theorem dX8_gifts_9 : decode cX8_gifts 9 = .ok (.if_icmp .ge 26, 3) := by decide +kernel
theorem dX8_gifts_12 : decode cX8_gifts 12 = .ok (.aload_n 0, 1) := by decide +kernel
theorem dX8_gifts_13 : decode cX8_gifts 13 = .ok (.iload_n 3, 1) := by decide +kernel
theorem dX8_gifts_14 : decode cX8_gifts 14 = .ok (.invokevirtual 139, 3) := by decide +kernel
theorem dX8_gifts_17 : decode cX8_gifts 17 = .ok (.ifCond .eq 12, 3) := by decide +kernel
theorem dX8_gifts_20 : decode cX8_gifts 20 = .ok (.iload_n 1, 1) := by decide +kernel
theorem dX8_gifts_21 : decode cX8_gifts 21 = .ok (.iconst 1, 1) := by decide +kernel
theorem dX8_gifts_22 : decode cX8_gifts 22 = .ok (.iload_n 3, 1) := by decide +kernel
theorem dX8_gifts_23 : decode cX8_gifts 23 = .ok (.ishl, 1) := by decide +kernel
theorem dX8_gifts_24 : decode cX8_gifts 24 = .ok (.ior, 1) := by decide +kernel
theorem dX8_gifts_25 : decode cX8_gifts 25 = .ok (.istore_n 1, 1) := by decide +kernel
theorem dX8_gifts_26 : decode cX8_gifts 26 = .ok (.iinc 2 1, 3) := by decide +kernel
theorem dX8_gifts_29 : decode cX8_gifts 29 = .ok (.iinc 3 1, 3) := by decide +kernel
theorem dX8_gifts_32 : decode cX8_gifts 32 = .ok (.goto (-26), 3) := by decide +kernel
theorem dX8_gifts_35 : decode cX8_gifts 35 = .ok (.iconst 0, 1) := by decide +kernel
theorem dX8_gifts_36 : decode cX8_gifts 36 = .ok (.istore_n 3, 1) := by decide +kernel
theorem dX8_gifts_37 : decode cX8_gifts 37 = .ok (.iload_n 3, 1) := by decide +kernel
theorem dX8_gifts_38 : decode cX8_gifts 38 = .ok (.bipush 64, 2) := by decide +kernel
theorem dX8_gifts_40 : decode cX8_gifts 40 = .ok (.if_icmp .ge 135, 3) := by decide +kernel
theorem dX8_gifts_43 : decode cX8_gifts 43 = .ok (.iconst 0, 1) := by decide +kernel
theorem dX8_gifts_44 : decode cX8_gifts 44 = .ok (.istore 4, 2) := by decide +kernel
theorem dX8_gifts_46 : decode cX8_gifts 46 = .ok (.iconst 0, 1) := by decide +kernel
theorem dX8_gifts_47 : decode cX8_gifts 47 = .ok (.istore 5, 2) := by decide +kernel
theorem dX8_gifts_49 : decode cX8_gifts 49 = .ok (.iconst 0, 1) := by decide +kernel
theorem dX8_gifts_50 : decode cX8_gifts 50 = .ok (.istore 6, 2) := by decide +kernel
theorem dX8_gifts_52 : decode cX8_gifts 52 = .ok (.iload 6, 2) := by decide +kernel
theorem dX8_gifts_54 : decode cX8_gifts 54 = .ok (.bipush 6, 2) := by decide +kernel
theorem dX8_gifts_56 : decode cX8_gifts 56 = .ok (.if_icmp .ge 89, 3) := by decide +kernel
theorem dX8_gifts_59 : decode cX8_gifts 59 = .ok (.iload_n 3, 1) := by decide +kernel
theorem dX8_gifts_60 : decode cX8_gifts 60 = .ok (.iload 6, 2) := by decide +kernel
theorem dX8_gifts_62 : decode cX8_gifts 62 = .ok (.ishr, 1) := by decide +kernel
theorem dX8_gifts_63 : decode cX8_gifts 63 = .ok (.iconst 1, 1) := by decide +kernel
theorem dX8_gifts_64 : decode cX8_gifts 64 = .ok (.iand, 1) := by decide +kernel
theorem dX8_gifts_65 : decode cX8_gifts 65 = .ok (.iconst 1, 1) := by decide +kernel
theorem dX8_gifts_66 : decode cX8_gifts 66 = .ok (.if_icmp .ne 7, 3) := by decide +kernel
theorem dX8_gifts_69 : decode cX8_gifts 69 = .ok (.iconst 1, 1) := by decide +kernel
theorem dX8_gifts_70 : decode cX8_gifts 70 = .ok (.goto 4, 3) := by decide +kernel
theorem dX8_gifts_73 : decode cX8_gifts 73 = .ok (.iconst 0, 1) := by decide +kernel
theorem dX8_gifts_74 : decode cX8_gifts 74 = .ok (.istore 7, 2) := by decide +kernel
theorem dX8_gifts_76 : decode cX8_gifts 76 = .ok (.iload 4, 2) := by decide +kernel
theorem dX8_gifts_78 : decode cX8_gifts 78 = .ok (.iload 7, 2) := by decide +kernel
theorem dX8_gifts_80 : decode cX8_gifts 80 = .ok (.ifCond .eq 12, 3) := by decide +kernel
theorem dX8_gifts_83 : decode cX8_gifts 83 = .ok (.aload_n 0, 1) := by decide +kernel
theorem dX8_gifts_84 : decode cX8_gifts 84 = .ok (.iload 6, 2) := by decide +kernel
theorem dX8_gifts_86 : decode cX8_gifts 86 = .ok (.invokevirtual 139, 3) := by decide +kernel
theorem dX8_gifts_89 : decode cX8_gifts 89 = .ok (.goto 4, 3) := by decide +kernel
theorem dX8_gifts_92 : decode cX8_gifts 92 = .ok (.iconst 0, 1) := by decide +kernel
theorem dX8_gifts_93 : decode cX8_gifts 93 = .ok (.iadd, 1) := by decide +kernel
theorem dX8_gifts_94 : decode cX8_gifts 94 = .ok (.istore 4, 2) := by decide +kernel
theorem dX8_gifts_96 : decode cX8_gifts 96 = .ok (.iload 7, 2) := by decide +kernel
theorem dX8_gifts_98 : decode cX8_gifts 98 = .ok (.ifCond .eq 37, 3) := by decide +kernel
theorem dX8_gifts_101 : decode cX8_gifts 101 = .ok (.aload_n 0, 1) := by decide +kernel
theorem dX8_gifts_102 : decode cX8_gifts 102 = .ok (.getfield 47, 3) := by decide +kernel
theorem dX8_gifts_105 : decode cX8_gifts 105 = .ok (.iload_n 3, 1) := by decide +kernel
theorem dX8_gifts_106 : decode cX8_gifts 106 = .ok (.iconst 1, 1) := by decide +kernel
theorem dX8_gifts_107 : decode cX8_gifts 107 = .ok (.iload 6, 2) := by decide +kernel
theorem dX8_gifts_109 : decode cX8_gifts 109 = .ok (.ishl, 1) := by decide +kernel
theorem dX8_gifts_110 : decode cX8_gifts 110 = .ok (.iconst (-1), 1) := by decide +kernel
theorem dX8_gifts_111 : decode cX8_gifts 111 = .ok (.ixor, 1) := by decide +kernel
theorem dX8_gifts_112 : decode cX8_gifts 112 = .ok (.iand, 1) := by decide +kernel
theorem dX8_gifts_113 : decode cX8_gifts 113 = .ok (.iaload, 1) := by decide +kernel
theorem dX8_gifts_114 : decode cX8_gifts 114 = .ok (.iload 5, 2) := by decide +kernel
theorem dX8_gifts_116 : decode cX8_gifts 116 = .ok (.if_icmp .le 19, 3) := by decide +kernel
theorem dX8_gifts_119 : decode cX8_gifts 119 = .ok (.aload_n 0, 1) := by decide +kernel
theorem dX8_gifts_120 : decode cX8_gifts 120 = .ok (.getfield 47, 3) := by decide +kernel
theorem dX8_gifts_123 : decode cX8_gifts 123 = .ok (.iload_n 3, 1) := by decide +kernel
theorem dX8_gifts_124 : decode cX8_gifts 124 = .ok (.iconst 1, 1) := by decide +kernel
theorem dX8_gifts_125 : decode cX8_gifts 125 = .ok (.iload 6, 2) := by decide +kernel
theorem dX8_gifts_127 : decode cX8_gifts 127 = .ok (.ishl, 1) := by decide +kernel
theorem dX8_gifts_128 : decode cX8_gifts 128 = .ok (.iconst (-1), 1) := by decide +kernel
theorem dX8_gifts_129 : decode cX8_gifts 129 = .ok (.ixor, 1) := by decide +kernel
theorem dX8_gifts_130 : decode cX8_gifts 130 = .ok (.iand, 1) := by decide +kernel
theorem dX8_gifts_131 : decode cX8_gifts 131 = .ok (.iaload, 1) := by decide +kernel
theorem dX8_gifts_132 : decode cX8_gifts 132 = .ok (.goto 5, 3) := by decide +kernel
theorem dX8_gifts_135 : decode cX8_gifts 135 = .ok (.iload 5, 2) := by decide +kernel
theorem dX8_gifts_137 : decode cX8_gifts 137 = .ok (.istore 5, 2) := by decide +kernel
theorem dX8_gifts_139 : decode cX8_gifts 139 = .ok (.iinc 6 1, 3) := by decide +kernel
theorem dX8_gifts_142 : decode cX8_gifts 142 = .ok (.goto (-90), 3) := by decide +kernel
theorem dX8_gifts_145 : decode cX8_gifts 145 = .ok (.aload_n 0, 1) := by decide +kernel
theorem dX8_gifts_146 : decode cX8_gifts 146 = .ok (.getfield 47, 3) := by decide +kernel
theorem dX8_gifts_149 : decode cX8_gifts 149 = .ok (.iload_n 3, 1) := by decide +kernel
theorem dX8_gifts_150 : decode cX8_gifts 150 = .ok (.iload_n 3, 1) := by decide +kernel
theorem dX8_gifts_151 : decode cX8_gifts 151 = .ok (.ifCond .le 15, 3) := by decide +kernel
theorem dX8_gifts_154 : decode cX8_gifts 154 = .ok (.iload 4, 2) := by decide +kernel
theorem dX8_gifts_156 : decode cX8_gifts 156 = .ok (.ifCond .ne 10, 3) := by decide +kernel
theorem dX8_gifts_159 : decode cX8_gifts 159 = .ok (.iload 5, 2) := by decide +kernel
theorem dX8_gifts_161 : decode cX8_gifts 161 = .ok (.iconst 1, 1) := by decide +kernel
theorem dX8_gifts_162 : decode cX8_gifts 162 = .ok (.iadd, 1) := by decide +kernel
theorem dX8_gifts_163 : decode cX8_gifts 163 = .ok (.goto 5, 3) := by decide +kernel
theorem dX8_gifts_166 : decode cX8_gifts 166 = .ok (.iload 5, 2) := by decide +kernel
theorem dX8_gifts_168 : decode cX8_gifts 168 = .ok (.iastore, 1) := by decide +kernel
theorem dX8_gifts_169 : decode cX8_gifts 169 = .ok (.iinc 3 1, 3) := by decide +kernel
theorem dX8_gifts_172 : decode cX8_gifts 172 = .ok (.goto (-135), 3) := by decide +kernel
theorem dX8_gifts_175 : decode cX8_gifts 175 = .ok (.iload_n 2, 1) := by decide +kernel
theorem dX8_gifts_176 : decode cX8_gifts 176 = .ok (.aload_n 0, 1) := by decide +kernel
theorem dX8_gifts_177 : decode cX8_gifts 177 = .ok (.getfield 47, 3) := by decide +kernel
theorem dX8_gifts_180 : decode cX8_gifts 180 = .ok (.iload_n 1, 1) := by decide +kernel
theorem dX8_gifts_181 : decode cX8_gifts 181 = .ok (.iaload, 1) := by decide +kernel
theorem dX8_gifts_182 : decode cX8_gifts 182 = .ok (.isub, 1) := by decide +kernel
theorem dX8_gifts_183 : decode cX8_gifts 183 = .ok (.ireturn, 1) := by decide +kernel
theorem dX8_layLine_0 : decode cX8_layLine 0 = .ok (.iload_n 1, 1) := by decide +kernel
theorem dX8_layLine_1 : decode cX8_layLine 1 = .ok (.istore_n 2, 1) := by decide +kernel
theorem dX8_layLine_2 : decode cX8_layLine 2 = .ok (.aload_n 0, 1) := by decide +kernel
theorem dX8_layLine_3 : decode cX8_layLine 3 = .ok (.getfield 75, 3) := by decide +kernel
theorem dX8_layLine_6 : decode cX8_layLine 6 = .ok (.iconst 1, 1) := by decide +kernel
theorem dX8_layLine_7 : decode cX8_layLine 7 = .ok (.isub, 1) := by decide +kernel
theorem dX8_layLine_8 : decode cX8_layLine 8 = .ok (.istore_n 3, 1) := by decide +kernel
theorem dX8_layLine_9 : decode cX8_layLine 9 = .ok (.iload_n 3, 1) := by decide +kernel
theorem dX8_layLine_10 : decode cX8_layLine 10 = .ok (.ifCond .lt 64, 3) := by decide +kernel
theorem dX8_layLine_13 : decode cX8_layLine 13 = .ok (.aload_n 0, 1) := by decide +kernel
theorem dX8_layLine_14 : decode cX8_layLine 14 = .ok (.getfield 50, 3) := by decide +kernel
theorem dX8_layLine_17 : decode cX8_layLine 17 = .ok (.iload_n 3, 1) := by decide +kernel
theorem dX8_layLine_18 : decode cX8_layLine 18 = .ok (.aload_n 0, 1) := by decide +kernel
theorem dX8_layLine_19 : decode cX8_layLine 19 = .ok (.getfield 20, 3) := by decide +kernel
theorem dX8_layLine_22 : decode cX8_layLine 22 = .ok (.iload_n 3, 1) := by decide +kernel
theorem dX8_layLine_23 : decode cX8_layLine 23 = .ok (.iaload, 1) := by decide +kernel
theorem dX8_layLine_24 : decode cX8_layLine 24 = .ok (.iastore, 1) := by decide +kernel
theorem dX8_layLine_25 : decode cX8_layLine 25 = .ok (.aload_n 0, 1) := by decide +kernel
theorem dX8_layLine_26 : decode cX8_layLine 26 = .ok (.getfield 20, 3) := by decide +kernel
theorem dX8_layLine_29 : decode cX8_layLine 29 = .ok (.iload_n 3, 1) := by decide +kernel
theorem dX8_layLine_30 : decode cX8_layLine 30 = .ok (.iaload, 1) := by decide +kernel
theorem dX8_layLine_31 : decode cX8_layLine 31 = .ok (.bipush 42, 2) := by decide +kernel
theorem dX8_layLine_33 : decode cX8_layLine 33 = .ok (.if_icmp .ne 35, 3) := by decide +kernel
theorem dX8_layLine_36 : decode cX8_layLine 36 = .ok (.aload_n 0, 1) := by decide +kernel
theorem dX8_layLine_37 : decode cX8_layLine 37 = .ok (.getfield 50, 3) := by decide +kernel
theorem dX8_layLine_40 : decode cX8_layLine 40 = .ok (.iload_n 3, 1) := by decide +kernel
theorem dX8_layLine_41 : decode cX8_layLine 41 = .ok (.iload_n 2, 1) := by decide +kernel
theorem dX8_layLine_42 : decode cX8_layLine 42 = .ok (.bipush 7, 2) := by decide +kernel
theorem dX8_layLine_44 : decode cX8_layLine 44 = .ok (.irem, 1) := by decide +kernel
theorem dX8_layLine_45 : decode cX8_layLine 45 = .ok (.bipush 6, 2) := by decide +kernel
theorem dX8_layLine_47 : decode cX8_layLine 47 = .ok (.if_icmp .ne 8, 3) := by decide +kernel
theorem dX8_layLine_50 : decode cX8_layLine 50 = .ok (.bipush 46, 2) := by decide +kernel
theorem dX8_layLine_52 : decode cX8_layLine 52 = .ok (.goto 10, 3) := by decide +kernel
theorem dX8_layLine_55 : decode cX8_layLine 55 = .ok (.bipush 97, 2) := by decide +kernel
theorem dX8_layLine_57 : decode cX8_layLine 57 = .ok (.iload_n 2, 1) := by decide +kernel
theorem dX8_layLine_58 : decode cX8_layLine 58 = .ok (.bipush 7, 2) := by decide +kernel
theorem dX8_layLine_60 : decode cX8_layLine 60 = .ok (.irem, 1) := by decide +kernel
