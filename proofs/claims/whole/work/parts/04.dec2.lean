theorem dX6_stir_92 : decode cX6_stir 92 = .ok (.iconst 0, 1) := by decide +kernel
theorem dX6_stir_93 : decode cX6_stir 93 = .ok (.iastore, 1) := by decide +kernel
theorem dX6_stir_94 : decode cX6_stir 94 = .ok (.aload_n 0, 1) := by decide +kernel
theorem dX6_stir_95 : decode cX6_stir 95 = .ok (.getfield 11, 3) := by decide +kernel
theorem dX6_stir_98 : decode cX6_stir 98 = .ok (.iconst 3, 1) := by decide +kernel
theorem dX6_stir_99 : decode cX6_stir 99 = .ok (.aaload, 1) := by decide +kernel
theorem dX6_stir_100 : decode cX6_stir 100 = .ok (.iload_n 2, 1) := by decide +kernel
theorem dX6_stir_101 : decode cX6_stir 101 = .ok (.iconst 0, 1) := by decide +kernel
theorem dX6_stir_102 : decode cX6_stir 102 = .ok (.iastore, 1) := by decide +kernel
theorem dX6_stir_103 : decode cX6_stir 103 = .ok (.goto 58, 3) := by decide +kernel
theorem dX6_stir_106 : decode cX6_stir 106 = .ok (.aload_n 0, 1) := by decide +kernel
theorem dX6_stir_107 : decode cX6_stir 107 = .ok (.getfield 11, 3) := by decide +kernel
theorem dX6_stir_110 : decode cX6_stir 110 = .ok (.iconst 1, 1) := by decide +kernel
theorem dX6_stir_111 : decode cX6_stir 111 = .ok (.aaload, 1) := by decide +kernel
theorem dX6_stir_112 : decode cX6_stir 112 = .ok (.iload_n 2, 1) := by decide +kernel
theorem dX6_stir_113 : decode cX6_stir 113 = .ok (.iconst 1, 1) := by decide +kernel
theorem dX6_stir_114 : decode cX6_stir 114 = .ok (.iastore, 1) := by decide +kernel
theorem dX6_stir_115 : decode cX6_stir 115 = .ok (.aload_n 0, 1) := by decide +kernel
theorem dX6_stir_116 : decode cX6_stir 116 = .ok (.getfield 11, 3) := by decide +kernel
theorem dX6_stir_119 : decode cX6_stir 119 = .ok (.iconst 2, 1) := by decide +kernel
theorem dX6_stir_120 : decode cX6_stir 120 = .ok (.aaload, 1) := by decide +kernel
theorem dX6_stir_121 : decode cX6_stir 121 = .ok (.iload_n 2, 1) := by decide +kernel
theorem dX6_stir_122 : decode cX6_stir 122 = .ok (.iconst 1, 1) := by decide +kernel
theorem dX6_stir_123 : decode cX6_stir 123 = .ok (.iastore, 1) := by decide +kernel
theorem dX6_stir_124 : decode cX6_stir 124 = .ok (.goto 37, 3) := by decide +kernel
theorem dX6_stir_127 : decode cX6_stir 127 = .ok (.aload_n 0, 1) := by decide +kernel
theorem dX6_stir_128 : decode cX6_stir 128 = .ok (.getfield 11, 3) := by decide +kernel
theorem dX6_stir_131 : decode cX6_stir 131 = .ok (.iconst 1, 1) := by decide +kernel
theorem dX6_stir_132 : decode cX6_stir 132 = .ok (.aaload, 1) := by decide +kernel
theorem dX6_stir_133 : decode cX6_stir 133 = .ok (.iload_n 2, 1) := by decide +kernel
theorem dX6_stir_134 : decode cX6_stir 134 = .ok (.iaload, 1) := by decide +kernel
theorem dX6_stir_135 : decode cX6_stir 135 = .ok (.iconst 1, 1) := by decide +kernel
theorem dX6_stir_136 : decode cX6_stir 136 = .ok (.if_icmp .ne 25, 3) := by decide +kernel
theorem dX6_stir_139 : decode cX6_stir 139 = .ok (.aload_n 0, 1) := by decide +kernel
theorem dX6_stir_140 : decode cX6_stir 140 = .ok (.getfield 11, 3) := by decide +kernel
theorem dX6_stir_143 : decode cX6_stir 143 = .ok (.iconst 0, 1) := by decide +kernel
theorem dX6_stir_144 : decode cX6_stir 144 = .ok (.aaload, 1) := by decide +kernel
theorem dX6_stir_145 : decode cX6_stir 145 = .ok (.iload_n 2, 1) := by decide +kernel
theorem dX6_stir_146 : decode cX6_stir 146 = .ok (.iconst 0, 1) := by decide +kernel
theorem dX6_stir_147 : decode cX6_stir 147 = .ok (.aload_n 0, 1) := by decide +kernel
theorem dX6_stir_148 : decode cX6_stir 148 = .ok (.getfield 11, 3) := by decide +kernel
theorem dX6_stir_151 : decode cX6_stir 151 = .ok (.iconst 0, 1) := by decide +kernel
theorem dX6_stir_152 : decode cX6_stir 152 = .ok (.aaload, 1) := by decide +kernel
theorem dX6_stir_153 : decode cX6_stir 153 = .ok (.iload_n 2, 1) := by decide +kernel
theorem dX6_stir_154 : decode cX6_stir 154 = .ok (.iaload, 1) := by decide +kernel
theorem dX6_stir_155 : decode cX6_stir 155 = .ok (.iload_n 3, 1) := by decide +kernel
theorem dX6_stir_156 : decode cX6_stir 156 = .ok (.isub, 1) := by decide +kernel
theorem dX6_stir_157 : decode cX6_stir 157 = .ok (.invokestatic 77, 3) := by decide +kernel
theorem dX6_stir_160 : decode cX6_stir 160 = .ok (.iastore, 1) := by decide +kernel
theorem dX6_stir_161 : decode cX6_stir 161 = .ok (.return_, 1) := by decide +kernel
theorem dX6_last_0 : decode cX6_last 0 = .ok (.iconst 0, 1) := by decide +kernel
theorem dX6_last_1 : decode cX6_last 1 = .ok (.istore_n 3, 1) := by decide +kernel
theorem dX6_last_2 : decode cX6_last 2 = .ok (.iload_n 3, 1) := by decide +kernel
theorem dX6_last_3 : decode cX6_last 3 = .ok (.iload_n 2, 1) := by decide +kernel
theorem dX6_last_4 : decode cX6_last 4 = .ok (.if_icmp .ge 81, 3) := by decide +kernel
theorem dX6_last_7 : decode cX6_last 7 = .ok (.aload_n 0, 1) := by decide +kernel
theorem dX6_last_8 : decode cX6_last 8 = .ok (.iload_n 1, 1) := by decide +kernel
theorem dX6_last_9 : decode cX6_last 9 = .ok (.invokevirtual 83, 3) := by decide +kernel
theorem dX6_last_12 : decode cX6_last 12 = .ok (.iconst 0, 1) := by decide +kernel
theorem dX6_last_13 : decode cX6_last 13 = .ok (.istore 4, 2) := by decide +kernel
theorem dX6_last_15 : decode cX6_last 15 = .ok (.iload 4, 2) := by decide +kernel
theorem dX6_last_17 : decode cX6_last 17 = .ok (.bipush 6, 2) := by decide +kernel
theorem dX6_last_19 : decode cX6_last 19 = .ok (.if_icmp .ge 50, 3) := by decide +kernel
theorem dX6_last_22 : decode cX6_last 22 = .ok (.iload 4, 2) := by decide +kernel
theorem dX6_last_24 : decode cX6_last 24 = .ok (.iload_n 1, 1) := by decide +kernel
theorem dX6_last_25 : decode cX6_last 25 = .ok (.if_icmp .eq 38, 3) := by decide +kernel
theorem dX6_last_28 : decode cX6_last 28 = .ok (.aload_n 0, 1) := by decide +kernel
theorem dX6_last_29 : decode cX6_last 29 = .ok (.iload 4, 2) := by decide +kernel
theorem dX6_last_31 : decode cX6_last 31 = .ok (.invokevirtual 74, 3) := by decide +kernel
theorem dX6_last_34 : decode cX6_last 34 = .ok (.ifCond .eq 29, 3) := by decide +kernel
theorem dX6_last_37 : decode cX6_last 37 = .ok (.aload_n 0, 1) := by decide +kernel
theorem dX6_last_38 : decode cX6_last 38 = .ok (.getfield 11, 3) := by decide +kernel
theorem dX6_last_41 : decode cX6_last 41 = .ok (.iconst 0, 1) := by decide +kernel
theorem dX6_last_42 : decode cX6_last 42 = .ok (.aaload, 1) := by decide +kernel
theorem dX6_last_43 : decode cX6_last 43 = .ok (.iload 4, 2) := by decide +kernel
theorem dX6_last_45 : decode cX6_last 45 = .ok (.sipush 999, 3) := by decide +kernel
theorem dX6_last_48 : decode cX6_last 48 = .ok (.aload_n 0, 1) := by decide +kernel
theorem dX6_last_49 : decode cX6_last 49 = .ok (.getfield 11, 3) := by decide +kernel
theorem dX6_last_52 : decode cX6_last 52 = .ok (.iconst 0, 1) := by decide +kernel
theorem dX6_last_53 : decode cX6_last 53 = .ok (.aaload, 1) := by decide +kernel
theorem dX6_last_54 : decode cX6_last 54 = .ok (.iload 4, 2) := by decide +kernel
theorem dX6_last_56 : decode cX6_last 56 = .ok (.iaload, 1) := by decide +kernel
theorem dX6_last_57 : decode cX6_last 57 = .ok (.iconst 1, 1) := by decide +kernel
theorem dX6_last_58 : decode cX6_last 58 = .ok (.iadd, 1) := by decide +kernel
theorem dX6_last_59 : decode cX6_last 59 = .ok (.invokestatic 87, 3) := by decide +kernel
theorem dX6_last_62 : decode cX6_last 62 = .ok (.iastore, 1) := by decide +kernel
theorem dX6_last_63 : decode cX6_last 63 = .ok (.iinc 4 1, 3) := by decide +kernel
theorem dX6_last_66 : decode cX6_last 66 = .ok (.goto (-51), 3) := by decide +kernel
theorem dX6_last_69 : decode cX6_last 69 = .ok (.aload_n 0, 1) := by decide +kernel
theorem dX6_last_70 : decode cX6_last 70 = .ok (.dup, 1) := by decide +kernel
theorem dX6_last_71 : decode cX6_last 71 = .ok (.getfield 20, 3) := by decide +kernel
theorem dX6_last_74 : decode cX6_last 74 = .ok (.iconst 1, 1) := by decide +kernel
theorem dX6_last_75 : decode cX6_last 75 = .ok (.iadd, 1) := by decide +kernel
theorem dX6_last_76 : decode cX6_last 76 = .ok (.putfield 20, 3) := by decide +kernel
theorem dX6_last_79 : decode cX6_last 79 = .ok (.iinc 3 1, 3) := by decide +kernel
theorem dX6_last_82 : decode cX6_last 82 = .ok (.goto (-80), 3) := by decide +kernel
theorem dX6_last_85 : decode cX6_last 85 = .ok (.return_, 1) := by decide +kernel
theorem dX6_speak_0 : decode cX6_speak 0 = .ok (.iload_n 1, 1) := by decide +kernel
theorem dX6_speak_1 : decode cX6_speak 1 = .ok (.invokestatic 66, 3) := by decide +kernel
theorem dX6_speak_4 : decode cX6_speak 4 = .ok (.ifCond .ne 4, 3) := by decide +kernel
theorem dX6_speak_7 : decode cX6_speak 7 = .ok (.return_, 1) := by decide +kernel
theorem dX6_speak_8 : decode cX6_speak 8 = .ok (.aload_n 0, 1) := by decide +kernel
theorem dX6_speak_9 : decode cX6_speak 9 = .ok (.getfield 16, 3) := by decide +kernel
theorem dX6_speak_12 : decode cX6_speak 12 = .ok (.iload_n 1, 1) := by decide +kernel
theorem dX6_speak_13 : decode cX6_speak 13 = .ok (.dup2, 1) := by decide +kernel
theorem dX6_speak_14 : decode cX6_speak 14 = .ok (.iaload, 1) := by decide +kernel
theorem dX6_speak_15 : decode cX6_speak 15 = .ok (.iconst 1, 1) := by decide +kernel
theorem dX6_speak_16 : decode cX6_speak 16 = .ok (.iadd, 1) := by decide +kernel
theorem dX6_speak_17 : decode cX6_speak 17 = .ok (.iastore, 1) := by decide +kernel
theorem dX6_speak_18 : decode cX6_speak 18 = .ok (.aload_n 0, 1) := by decide +kernel
theorem dX6_speak_19 : decode cX6_speak 19 = .ok (.iload_n 1, 1) := by decide +kernel
theorem dX6_speak_20 : decode cX6_speak 20 = .ok (.invokevirtual 90, 3) := by decide +kernel
theorem dX6_speak_23 : decode cX6_speak 23 = .ok (.ifCond .eq 4, 3) := by decide +kernel
theorem dX6_speak_26 : decode cX6_speak 26 = .ok (.return_, 1) := by decide +kernel
theorem dX6_speak_27 : decode cX6_speak 27 = .ok (.aload_n 0, 1) := by decide +kernel
theorem dX6_speak_28 : decode cX6_speak 28 = .ok (.getfield 24, 3) := by decide +kernel
theorem dX6_speak_31 : decode cX6_speak 31 = .ok (.ifCond .ne 11, 3) := by decide +kernel
theorem dX6_speak_34 : decode cX6_speak 34 = .ok (.aload_n 0, 1) := by decide +kernel
theorem dX6_speak_35 : decode cX6_speak 35 = .ok (.aload_n 0, 1) := by decide +kernel
theorem dX6_speak_36 : decode cX6_speak 36 = .ok (.getfield 20, 3) := by decide +kernel
theorem dX6_speak_39 : decode cX6_speak 39 = .ok (.putfield 27, 3) := by decide +kernel
theorem dX6_speak_42 : decode cX6_speak 42 = .ok (.aload_n 0, 1) := by decide +kernel
theorem dX6_speak_43 : decode cX6_speak 43 = .ok (.dup, 1) := by decide +kernel
theorem dX6_speak_44 : decode cX6_speak 44 = .ok (.getfield 24, 3) := by decide +kernel
theorem dX6_speak_47 : decode cX6_speak 47 = .ok (.iconst 1, 1) := by decide +kernel
theorem dX6_speak_48 : decode cX6_speak 48 = .ok (.iadd, 1) := by decide +kernel
theorem dX6_speak_49 : decode cX6_speak 49 = .ok (.putfield 24, 3) := by decide +kernel
theorem dX6_speak_52 : decode cX6_speak 52 = .ok (.return_, 1) := by decide +kernel
theorem dX6_pay_0 : decode cX6_pay 0 = .ok (.aload_n 0, 1) := by decide +kernel
theorem dX6_pay_1 : decode cX6_pay 1 = .ok (.iload_n 1, 1) := by decide +kernel
theorem dX6_pay_2 : decode cX6_pay 2 = .ok (.invokevirtual 74, 3) := by decide +kernel
theorem dX6_pay_5 : decode cX6_pay 5 = .ok (.ifCond .ne 5, 3) := by decide +kernel
theorem dX6_pay_8 : decode cX6_pay 8 = .ok (.iconst 0, 1) := by decide +kernel
theorem dX6_pay_9 : decode cX6_pay 9 = .ok (.ireturn, 1) := by decide +kernel
theorem dX6_pay_10 : decode cX6_pay 10 = .ok (.aload_n 0, 1) := by decide +kernel
theorem dX6_pay_11 : decode cX6_pay 11 = .ok (.getfield 11, 3) := by decide +kernel
theorem dX6_pay_14 : decode cX6_pay 14 = .ok (.iconst 3, 1) := by decide +kernel
theorem dX6_pay_15 : decode cX6_pay 15 = .ok (.aaload, 1) := by decide +kernel
theorem dX6_pay_16 : decode cX6_pay 16 = .ok (.iload_n 1, 1) := by decide +kernel
theorem dX6_pay_17 : decode cX6_pay 17 = .ok (.iaload, 1) := by decide +kernel
theorem dX6_pay_18 : decode cX6_pay 18 = .ok (.istore_n 2, 1) := by decide +kernel
theorem dX6_pay_19 : decode cX6_pay 19 = .ok (.iload_n 2, 1) := by decide +kernel
theorem dX6_pay_20 : decode cX6_pay 20 = .ok (.ifCond .le 15, 3) := by decide +kernel
theorem dX6_pay_23 : decode cX6_pay 23 = .ok (.iload_n 2, 1) := by decide +kernel
theorem dX6_pay_24 : decode cX6_pay 24 = .ok (.iconst 1, 1) := by decide +kernel
theorem dX6_pay_25 : decode cX6_pay 25 = .ok (.isub, 1) := by decide +kernel
theorem dX6_pay_26 : decode cX6_pay 26 = .ok (.iconst 2, 1) := by decide +kernel
theorem dX6_pay_27 : decode cX6_pay 27 = .ok (.irem, 1) := by decide +kernel
theorem dX6_pay_28 : decode cX6_pay 28 = .ok (.ifCond .ne 7, 3) := by decide +kernel
theorem dX6_pay_31 : decode cX6_pay 31 = .ok (.iconst 0, 1) := by decide +kernel
theorem dX6_pay_32 : decode cX6_pay 32 = .ok (.goto 4, 3) := by decide +kernel
theorem dX6_pay_35 : decode cX6_pay 35 = .ok (.iconst 1, 1) := by decide +kernel
theorem dX6_pay_36 : decode cX6_pay 36 = .ok (.istore_n 3, 1) := by decide +kernel
theorem dX6_pay_37 : decode cX6_pay 37 = .ok (.aload_n 0, 1) := by decide +kernel
theorem dX6_pay_38 : decode cX6_pay 38 = .ok (.getfield 11, 3) := by decide +kernel
theorem dX6_pay_41 : decode cX6_pay 41 = .ok (.iconst 0, 1) := by decide +kernel
theorem dX6_pay_42 : decode cX6_pay 42 = .ok (.aaload, 1) := by decide +kernel
theorem dX6_pay_43 : decode cX6_pay 43 = .ok (.iload_n 1, 1) := by decide +kernel
theorem dX6_pay_44 : decode cX6_pay 44 = .ok (.iaload, 1) := by decide +kernel
theorem dX6_pay_45 : decode cX6_pay 45 = .ok (.iload_n 3, 1) := by decide +kernel
theorem dX6_pay_46 : decode cX6_pay 46 = .ok (.if_icmp .ge 5, 3) := by decide +kernel
theorem dX6_pay_49 : decode cX6_pay 49 = .ok (.iconst 0, 1) := by decide +kernel
theorem dX6_pay_50 : decode cX6_pay 50 = .ok (.ireturn, 1) := by decide +kernel
theorem dX6_pay_51 : decode cX6_pay 51 = .ok (.aload_n 0, 1) := by decide +kernel
theorem dX6_pay_52 : decode cX6_pay 52 = .ok (.getfield 11, 3) := by decide +kernel
theorem dX6_pay_55 : decode cX6_pay 55 = .ok (.iconst 0, 1) := by decide +kernel
theorem dX6_pay_56 : decode cX6_pay 56 = .ok (.aaload, 1) := by decide +kernel
theorem dX6_pay_57 : decode cX6_pay 57 = .ok (.iload_n 1, 1) := by decide +kernel
theorem dX6_pay_58 : decode cX6_pay 58 = .ok (.dup2, 1) := by decide +kernel
theorem dX6_pay_59 : decode cX6_pay 59 = .ok (.iaload, 1) := by decide +kernel
theorem dX6_pay_60 : decode cX6_pay 60 = .ok (.iload_n 3, 1) := by decide +kernel
theorem dX6_pay_61 : decode cX6_pay 61 = .ok (.isub, 1) := by decide +kernel
theorem dX6_pay_62 : decode cX6_pay 62 = .ok (.iastore, 1) := by decide +kernel
theorem dX6_pay_63 : decode cX6_pay 63 = .ok (.aload_n 0, 1) := by decide +kernel
theorem dX6_pay_64 : decode cX6_pay 64 = .ok (.getfield 11, 3) := by decide +kernel
theorem dX6_pay_67 : decode cX6_pay 67 = .ok (.iconst 3, 1) := by decide +kernel
theorem dX6_pay_68 : decode cX6_pay 68 = .ok (.aaload, 1) := by decide +kernel
theorem dX6_pay_69 : decode cX6_pay 69 = .ok (.iload_n 1, 1) := by decide +kernel
theorem dX6_pay_70 : decode cX6_pay 70 = .ok (.iconst 0, 1) := by decide +kernel
theorem dX6_pay_71 : decode cX6_pay 71 = .ok (.iload_n 2, 1) := by decide +kernel
theorem dX6_pay_72 : decode cX6_pay 72 = .ok (.iconst 1, 1) := by decide +kernel
theorem dX6_pay_73 : decode cX6_pay 73 = .ok (.isub, 1) := by decide +kernel
theorem dX6_pay_74 : decode cX6_pay 74 = .ok (.invokestatic 77, 3) := by decide +kernel
theorem dX6_pay_77 : decode cX6_pay 77 = .ok (.iastore, 1) := by decide +kernel
theorem dX6_pay_78 : decode cX6_pay 78 = .ok (.iconst 1, 1) := by decide +kernel
theorem dX6_pay_79 : decode cX6_pay 79 = .ok (.ireturn, 1) := by decide +kernel
theorem dX6_listens_0 : decode cX6_listens 0 = .ok (.iload_n 1, 1) := by decide +kernel
theorem dX6_listens_1 : decode cX6_listens 1 = .ok (.invokestatic 66, 3) := by decide +kernel
theorem dX6_listens_4 : decode cX6_listens 4 = .ok (.ifCond .eq 31, 3) := by decide +kernel
theorem dX6_listens_7 : decode cX6_listens 7 = .ok (.aload_n 0, 1) := by decide +kernel
theorem dX6_listens_8 : decode cX6_listens 8 = .ok (.getfield 11, 3) := by decide +kernel
theorem dX6_listens_11 : decode cX6_listens 11 = .ok (.iconst 1, 1) := by decide +kernel
theorem dX6_listens_12 : decode cX6_listens 12 = .ok (.aaload, 1) := by decide +kernel
theorem dX6_listens_13 : decode cX6_listens 13 = .ok (.iload_n 1, 1) := by decide +kernel
theorem dX6_listens_14 : decode cX6_listens 14 = .ok (.iaload, 1) := by decide +kernel
theorem dX6_listens_15 : decode cX6_listens 15 = .ok (.iconst 1, 1) := by decide +kernel
theorem dX6_listens_16 : decode cX6_listens 16 = .ok (.if_icmp .ne 19, 3) := by decide +kernel
theorem dX6_listens_19 : decode cX6_listens 19 = .ok (.aload_n 0, 1) := by decide +kernel
theorem dX6_listens_20 : decode cX6_listens 20 = .ok (.getfield 11, 3) := by decide +kernel
theorem dX6_listens_23 : decode cX6_listens 23 = .ok (.iconst 2, 1) := by decide +kernel
theorem dX6_listens_24 : decode cX6_listens 24 = .ok (.aaload, 1) := by decide +kernel
theorem dX6_listens_25 : decode cX6_listens 25 = .ok (.iload_n 1, 1) := by decide +kernel
theorem dX6_listens_26 : decode cX6_listens 26 = .ok (.iaload, 1) := by decide +kernel
theorem dX6_listens_27 : decode cX6_listens 27 = .ok (.iconst 1, 1) := by decide +kernel
theorem dX6_listens_28 : decode cX6_listens 28 = .ok (.if_icmp .ne 7, 3) := by decide +kernel
theorem dX6_listens_31 : decode cX6_listens 31 = .ok (.iconst 1, 1) := by decide +kernel
theorem dX6_listens_32 : decode cX6_listens 32 = .ok (.goto 4, 3) := by decide +kernel
theorem dX6_listens_35 : decode cX6_listens 35 = .ok (.iconst 0, 1) := by decide +kernel
theorem dX6_listens_36 : decode cX6_listens 36 = .ok (.ireturn, 1) := by decide +kernel
theorem dX7_init_0 : decode cX7_init 0 = .ok (.aload_n 0, 1) := by decide +kernel
theorem dX7_init_1 : decode cX7_init 1 = .ok (.invokespecial 1, 3) := by decide +kernel
theorem dX7_init_4 : decode cX7_init 4 = .ok (.aload_n 0, 1) := by decide +kernel
theorem dX7_init_5 : decode cX7_init 5 = .ok (.new 7, 3) := by decide +kernel
theorem dX7_init_8 : decode cX7_init 8 = .ok (.dup, 1) := by decide +kernel
theorem dX7_init_9 : decode cX7_init 9 = .ok (.invokespecial 9, 3) := by decide +kernel
theorem dX7_init_12 : decode cX7_init 12 = .ok (.putfield 10, 3) := by decide +kernel
theorem dX7_init_15 : decode cX7_init 15 = .ok (.aload_n 0, 1) := by decide +kernel
theorem dX7_init_16 : decode cX7_init 16 = .ok (.iconst 2, 1) := by decide +kernel
theorem dX7_init_17 : decode cX7_init 17 = .ok (.anewarray 7, 3) := by decide +kernel
theorem dX7_init_20 : decode cX7_init 20 = .ok (.putfield 16, 3) := by decide +kernel
theorem dX7_init_23 : decode cX7_init 23 = .ok (.aload_n 0, 1) := by decide +kernel
theorem dX7_init_24 : decode cX7_init 24 = .ok (.iconst 2, 1) := by decide +kernel
theorem dX7_init_25 : decode cX7_init 25 = .ok (.newarray .boolean, 2) := by decide +kernel
theorem dX7_init_27 : decode cX7_init 27 = .ok (.putfield 20, 3) := by decide +kernel
theorem dX7_init_30 : decode cX7_init 30 = .ok (.aload_n 0, 1) := by decide +kernel
theorem dX7_init_31 : decode cX7_init 31 = .ok (.new 24, 3) := by decide +kernel
theorem dX7_init_34 : decode cX7_init 34 = .ok (.dup, 1) := by decide +kernel
theorem dX7_init_35 : decode cX7_init 35 = .ok (.invokespecial 26, 3) := by decide +kernel
theorem dX7_init_38 : decode cX7_init 38 = .ok (.putfield 27, 3) := by decide +kernel
theorem dX7_init_41 : decode cX7_init 41 = .ok (.aload_n 0, 1) := by decide +kernel
theorem dX7_init_42 : decode cX7_init 42 = .ok (.new 31, 3) := by decide +kernel
theorem dX7_init_45 : decode cX7_init 45 = .ok (.dup, 1) := by decide +kernel
theorem dX7_init_46 : decode cX7_init 46 = .ok (.invokespecial 33, 3) := by decide +kernel
theorem dX7_init_49 : decode cX7_init 49 = .ok (.putfield 34, 3) := by decide +kernel
theorem dX7_init_52 : decode cX7_init 52 = .ok (.aload_n 0, 1) := by decide +kernel
theorem dX7_init_53 : decode cX7_init 53 = .ok (.new 38, 3) := by decide +kernel
theorem dX7_init_56 : decode cX7_init 56 = .ok (.dup, 1) := by decide +kernel
theorem dX7_init_57 : decode cX7_init 57 = .ok (.invokespecial 40, 3) := by decide +kernel
theorem dX7_init_60 : decode cX7_init 60 = .ok (.putfield 41, 3) := by decide +kernel
theorem dX7_init_63 : decode cX7_init 63 = .ok (.aload_n 0, 1) := by decide +kernel
theorem dX7_init_64 : decode cX7_init 64 = .ok (.new 45, 3) := by decide +kernel
theorem dX7_init_67 : decode cX7_init 67 = .ok (.dup, 1) := by decide +kernel
theorem dX7_init_68 : decode cX7_init 68 = .ok (.invokespecial 47, 3) := by decide +kernel
theorem dX7_init_71 : decode cX7_init 71 = .ok (.putfield 48, 3) := by decide +kernel
theorem dX7_init_74 : decode cX7_init 74 = .ok (.aload_n 0, 1) := by decide +kernel
theorem dX7_init_75 : decode cX7_init 75 = .ok (.new 52, 3) := by decide +kernel
theorem dX7_init_78 : decode cX7_init 78 = .ok (.dup, 1) := by decide +kernel
theorem dX7_init_79 : decode cX7_init 79 = .ok (.invokespecial 54, 3) := by decide +kernel
theorem dX7_init_82 : decode cX7_init 82 = .ok (.putfield 55, 3) := by decide +kernel
theorem dX7_init_85 : decode cX7_init 85 = .ok (.iconst 0, 1) := by decide +kernel
theorem dX7_init_86 : decode cX7_init 86 = .ok (.istore_n 1, 1) := by decide +kernel
theorem dX7_init_87 : decode cX7_init 87 = .ok (.iload_n 1, 1) := by decide +kernel
theorem dX7_init_88 : decode cX7_init 88 = .ok (.iconst 2, 1) := by decide +kernel
theorem dX7_init_89 : decode cX7_init 89 = .ok (.if_icmp .ge 22, 3) := by decide +kernel
theorem dX7_init_92 : decode cX7_init 92 = .ok (.aload_n 0, 1) := by decide +kernel
theorem dX7_init_93 : decode cX7_init 93 = .ok (.getfield 16, 3) := by decide +kernel
theorem dX7_init_96 : decode cX7_init 96 = .ok (.iload_n 1, 1) := by decide +kernel
theorem dX7_init_97 : decode cX7_init 97 = .ok (.new 7, 3) := by decide +kernel
theorem dX7_init_100 : decode cX7_init 100 = .ok (.dup, 1) := by decide +kernel
theorem dX7_init_101 : decode cX7_init 101 = .ok (.invokespecial 9, 3) := by decide +kernel
theorem dX7_init_104 : decode cX7_init 104 = .ok (.aastore, 1) := by decide +kernel
theorem dX7_init_105 : decode cX7_init 105 = .ok (.iinc 1 1, 3) := by decide +kernel
theorem dX7_init_108 : decode cX7_init 108 = .ok (.goto (-21), 3) := by decide +kernel
theorem dX7_init_111 : decode cX7_init 111 = .ok (.return_, 1) := by decide +kernel
theorem dX7_set_0 : decode cX7_set 0 = .ok (.iload_n 1, 1) := by decide +kernel
theorem dX7_set_1 : decode cX7_set 1 = .ok (.invokestatic 59, 3) := by decide +kernel
theorem dX7_set_4 : decode cX7_set 4 = .ok (.ifCond .ne 5, 3) := by decide +kernel
theorem dX7_set_7 : decode cX7_set 7 = .ok (.iconst (-1), 1) := by decide +kernel
theorem dX7_set_8 : decode cX7_set 8 = .ok (.ireturn, 1) := by decide +kernel
theorem dX7_set_9 : decode cX7_set 9 = .ok (.iload_n 2, 1) := by decide +kernel
theorem dX7_set_10 : decode cX7_set 10 = .ok (.ifCond .lt 21, 3) := by decide +kernel
theorem dX7_set_13 : decode cX7_set 13 = .ok (.iload_n 2, 1) := by decide +kernel
theorem dX7_set_14 : decode cX7_set 14 = .ok (.iconst 4, 1) := by decide +kernel
theorem dX7_set_15 : decode cX7_set 15 = .ok (.if_icmp .ge 16, 3) := by decide +kernel
theorem dX7_set_18 : decode cX7_set 18 = .ok (.iload_n 3, 1) := by decide +kernel
theorem dX7_set_19 : decode cX7_set 19 = .ok (.ifCond .lt 12, 3) := by decide +kernel
theorem dX7_set_22 : decode cX7_set 22 = .ok (.iload_n 3, 1) := by decide +kernel
theorem dX7_set_23 : decode cX7_set 23 = .ok (.getstatic 63, 3) := by decide +kernel
theorem dX7_set_26 : decode cX7_set 26 = .ok (.iload_n 2, 1) := by decide +kernel
theorem dX7_set_27 : decode cX7_set 27 = .ok (.iaload, 1) := by decide +kernel
theorem dX7_set_28 : decode cX7_set 28 = .ok (.if_icmp .le 6, 3) := by decide +kernel
theorem dX7_set_31 : decode cX7_set 31 = .ok (.bipush (-2), 2) := by decide +kernel
theorem dX7_set_33 : decode cX7_set 33 = .ok (.ireturn, 1) := by decide +kernel
theorem dX7_set_34 : decode cX7_set 34 = .ok (.aload_n 0, 1) := by decide +kernel
theorem dX7_set_35 : decode cX7_set 35 = .ok (.getfield 10, 3) := by decide +kernel
theorem dX7_set_38 : decode cX7_set 38 = .ok (.getfield 67, 3) := by decide +kernel
theorem dX7_set_41 : decode cX7_set 41 = .ok (.iload_n 2, 1) := by decide +kernel
theorem dX7_set_42 : decode cX7_set 42 = .ok (.aaload, 1) := by decide +kernel
theorem dX7_set_43 : decode cX7_set 43 = .ok (.iload_n 1, 1) := by decide +kernel
theorem dX7_set_44 : decode cX7_set 44 = .ok (.iaload, 1) := by decide +kernel
theorem dX7_set_45 : decode cX7_set 45 = .ok (.istore 4, 2) := by decide +kernel
theorem dX7_set_47 : decode cX7_set 47 = .ok (.aload_n 0, 1) := by decide +kernel
theorem dX7_set_48 : decode cX7_set 48 = .ok (.getfield 10, 3) := by decide +kernel
theorem dX7_set_51 : decode cX7_set 51 = .ok (.getfield 67, 3) := by decide +kernel
theorem dX7_set_54 : decode cX7_set 54 = .ok (.iload_n 2, 1) := by decide +kernel
theorem dX7_set_55 : decode cX7_set 55 = .ok (.aaload, 1) := by decide +kernel
theorem dX7_set_56 : decode cX7_set 56 = .ok (.iload_n 1, 1) := by decide +kernel
theorem dX7_set_57 : decode cX7_set 57 = .ok (.iload_n 3, 1) := by decide +kernel
theorem dX7_set_58 : decode cX7_set 58 = .ok (.iastore, 1) := by decide +kernel
theorem dX7_set_59 : decode cX7_set 59 = .ok (.iload 4, 2) := by decide +kernel
theorem dX7_set_61 : decode cX7_set 61 = .ok (.ireturn, 1) := by decide +kernel
theorem dX7_law_0 : decode cX7_law 0 = .ok (.iload_n 1, 1) := by decide +kernel
theorem dX7_law_1 : decode cX7_law 1 = .ok (.ifCond .lt 18, 3) := by decide +kernel
theorem dX7_law_4 : decode cX7_law 4 = .ok (.iload_n 1, 1) := by decide +kernel
theorem dX7_law_5 : decode cX7_law 5 = .ok (.iconst 1, 1) := by decide +kernel
theorem dX7_law_6 : decode cX7_law 6 = .ok (.if_icmp .gt 13, 3) := by decide +kernel
theorem dX7_law_9 : decode cX7_law 9 = .ok (.iload_n 2, 1) := by decide +kernel
theorem dX7_law_10 : decode cX7_law 10 = .ok (.ifCond .lt 9, 3) := by decide +kernel
theorem dX7_law_13 : decode cX7_law 13 = .ok (.iload_n 2, 1) := by decide +kernel
theorem dX7_law_14 : decode cX7_law 14 = .ok (.bipush 99, 2) := by decide +kernel
theorem dX7_law_16 : decode cX7_law 16 = .ok (.if_icmp .le 6, 3) := by decide +kernel
theorem dX7_law_19 : decode cX7_law 19 = .ok (.bipush (-2), 2) := by decide +kernel
theorem dX7_law_21 : decode cX7_law 21 = .ok (.ireturn, 1) := by decide +kernel
theorem dX7_law_22 : decode cX7_law 22 = .ok (.iload_n 1, 1) := by decide +kernel
theorem dX7_law_23 : decode cX7_law 23 = .ok (.ifCond .ne 13, 3) := by decide +kernel
theorem dX7_law_26 : decode cX7_law 26 = .ok (.aload_n 0, 1) := by decide +kernel
theorem dX7_law_27 : decode cX7_law 27 = .ok (.getfield 10, 3) := by decide +kernel
theorem dX7_law_30 : decode cX7_law 30 = .ok (.getfield 71, 3) := by decide +kernel
theorem dX7_law_33 : decode cX7_law 33 = .ok (.goto 10, 3) := by decide +kernel
theorem dX7_law_36 : decode cX7_law 36 = .ok (.aload_n 0, 1) := by decide +kernel
theorem dX7_law_37 : decode cX7_law 37 = .ok (.getfield 10, 3) := by decide +kernel
theorem dX7_law_40 : decode cX7_law 40 = .ok (.getfield 75, 3) := by decide +kernel
theorem dX7_law_43 : decode cX7_law 43 = .ok (.istore_n 3, 1) := by decide +kernel
theorem dX7_law_44 : decode cX7_law 44 = .ok (.iload_n 1, 1) := by decide +kernel
theorem dX7_law_45 : decode cX7_law 45 = .ok (.ifCond .ne 14, 3) := by decide +kernel
theorem dX7_law_48 : decode cX7_law 48 = .ok (.aload_n 0, 1) := by decide +kernel
theorem dX7_law_49 : decode cX7_law 49 = .ok (.getfield 10, 3) := by decide +kernel
theorem dX7_law_52 : decode cX7_law 52 = .ok (.iload_n 2, 1) := by decide +kernel
theorem dX7_law_53 : decode cX7_law 53 = .ok (.putfield 71, 3) := by decide +kernel
theorem dX7_law_56 : decode cX7_law 56 = .ok (.goto 11, 3) := by decide +kernel
theorem dX7_law_59 : decode cX7_law 59 = .ok (.aload_n 0, 1) := by decide +kernel
theorem dX7_law_60 : decode cX7_law 60 = .ok (.getfield 10, 3) := by decide +kernel
theorem dX7_law_63 : decode cX7_law 63 = .ok (.iload_n 2, 1) := by decide +kernel
theorem dX7_law_64 : decode cX7_law 64 = .ok (.putfield 75, 3) := by decide +kernel
theorem dX7_law_67 : decode cX7_law 67 = .ok (.iload_n 3, 1) := by decide +kernel
theorem dX7_law_68 : decode cX7_law 68 = .ok (.ireturn, 1) := by decide +kernel
theorem dX7_say_0 : decode cX7_say 0 = .ok (.iload_n 1, 1) := by decide +kernel
theorem dX7_say_1 : decode cX7_say 1 = .ok (.bipush 33, 2) := by decide +kernel
theorem dX7_say_3 : decode cX7_say 3 = .ok (.if_icmp .lt 9, 3) := by decide +kernel
theorem dX7_say_6 : decode cX7_say 6 = .ok (.iload_n 1, 1) := by decide +kernel
theorem dX7_say_7 : decode cX7_say 7 = .ok (.bipush 126, 2) := by decide +kernel
theorem dX7_say_9 : decode cX7_say 9 = .ok (.if_icmp .le 6, 3) := by decide +kernel
theorem dX7_say_12 : decode cX7_say 12 = .ok (.bipush (-2), 2) := by decide +kernel
theorem dX7_say_14 : decode cX7_say 14 = .ok (.ireturn, 1) := by decide +kernel
theorem dX7_say_15 : decode cX7_say 15 = .ok (.aload_n 0, 1) := by decide +kernel
theorem dX7_say_16 : decode cX7_say 16 = .ok (.getfield 27, 3) := by decide +kernel
theorem dX7_say_19 : decode cX7_say 19 = .ok (.iload_n 1, 1) := by decide +kernel
theorem dX7_say_20 : decode cX7_say 20 = .ok (.invokevirtual 78, 3) := by decide +kernel
theorem dX7_say_23 : decode cX7_say 23 = .ok (.ifCond .eq 13, 3) := by decide +kernel
theorem dX7_say_26 : decode cX7_say 26 = .ok (.aload_n 0, 1) := by decide +kernel
theorem dX7_say_27 : decode cX7_say 27 = .ok (.getfield 27, 3) := by decide +kernel
theorem dX7_say_30 : decode cX7_say 30 = .ok (.getfield 81, 3) := by decide +kernel
theorem dX7_say_33 : decode cX7_say 33 = .ok (.goto 5, 3) := by decide +kernel
theorem dX7_say_36 : decode cX7_say 36 = .ok (.bipush (-4), 2) := by decide +kernel
theorem dX7_say_38 : decode cX7_say 38 = .ok (.ireturn, 1) := by decide +kernel
theorem dX7_wipe_0 : decode cX7_wipe 0 = .ok (.aload_n 0, 1) := by decide +kernel
theorem dX7_wipe_1 : decode cX7_wipe 1 = .ok (.getfield 27, 3) := by decide +kernel
theorem dX7_wipe_4 : decode cX7_wipe 4 = .ok (.getfield 81, 3) := by decide +kernel
theorem dX7_wipe_7 : decode cX7_wipe 7 = .ok (.istore_n 1, 1) := by decide +kernel
theorem dX7_wipe_8 : decode cX7_wipe 8 = .ok (.aload_n 0, 1) := by decide +kernel
theorem dX7_wipe_9 : decode cX7_wipe 9 = .ok (.getfield 27, 3) := by decide +kernel
theorem dX7_wipe_12 : decode cX7_wipe 12 = .ok (.iconst 0, 1) := by decide +kernel
theorem dX7_wipe_13 : decode cX7_wipe 13 = .ok (.putfield 81, 3) := by decide +kernel
theorem dX7_wipe_16 : decode cX7_wipe 16 = .ok (.iload_n 1, 1) := by decide +kernel
theorem dX7_wipe_17 : decode cX7_wipe 17 = .ok (.ireturn, 1) := by decide +kernel
theorem dX7_fault_0 : decode cX7_fault 0 = .ok (.iload_n 1, 1) := by decide +kernel
theorem dX7_fault_1 : decode cX7_fault 1 = .ok (.ifCond .lt 8, 3) := by decide +kernel
theorem dX7_fault_4 : decode cX7_fault 4 = .ok (.iload_n 1, 1) := by decide +kernel
theorem dX7_fault_5 : decode cX7_fault 5 = .ok (.iconst 1, 1) := by decide +kernel
theorem dX7_fault_6 : decode cX7_fault 6 = .ok (.if_icmp .le 6, 3) := by decide +kernel
theorem dX7_fault_9 : decode cX7_fault 9 = .ok (.bipush (-2), 2) := by decide +kernel
theorem dX7_fault_11 : decode cX7_fault 11 = .ok (.ireturn, 1) := by decide +kernel
theorem dX7_fault_12 : decode cX7_fault 12 = .ok (.iload_n 1, 1) := by decide +kernel
theorem dX7_fault_13 : decode cX7_fault 13 = .ok (.ifCond .ne 13, 3) := by decide +kernel
theorem dX7_fault_16 : decode cX7_fault 16 = .ok (.aload_n 0, 1) := by decide +kernel
theorem dX7_fault_17 : decode cX7_fault 17 = .ok (.getfield 27, 3) := by decide +kernel
theorem dX7_fault_20 : decode cX7_fault 20 = .ok (.invokevirtual 84, 3) := by decide +kernel
theorem dX7_fault_23 : decode cX7_fault 23 = .ok (.goto 10, 3) := by decide +kernel
theorem dX7_fault_26 : decode cX7_fault 26 = .ok (.aload_n 0, 1) := by decide +kernel
theorem dX7_fault_27 : decode cX7_fault 27 = .ok (.getfield 27, 3) := by decide +kernel
theorem dX7_fault_30 : decode cX7_fault 30 = .ok (.invokevirtual 88, 3) := by decide +kernel
theorem dX7_fault_33 : decode cX7_fault 33 = .ok (.ireturn, 1) := by decide +kernel
theorem dX7_sits_0 : decode cX7_sits 0 = .ok (.iload_n 1, 1) := by decide +kernel
theorem dX7_sits_1 : decode cX7_sits 1 = .ok (.ifCond .lt 12, 3) := by decide +kernel
theorem dX7_sits_4 : decode cX7_sits 4 = .ok (.iload_n 1, 1) := by decide +kernel
theorem dX7_sits_5 : decode cX7_sits 5 = .ok (.iconst 2, 1) := by decide +kernel
theorem dX7_sits_6 : decode cX7_sits 6 = .ok (.if_icmp .gt 7, 3) := by decide +kernel
theorem dX7_sits_9 : decode cX7_sits 9 = .ok (.iconst 1, 1) := by decide +kernel
theorem dX7_sits_10 : decode cX7_sits 10 = .ok (.goto 4, 3) := by decide +kernel
theorem dX7_sits_13 : decode cX7_sits 13 = .ok (.iconst 0, 1) := by decide +kernel
theorem dX7_sits_14 : decode cX7_sits 14 = .ok (.istore_n 2, 1) := by decide +kernel
theorem dX7_sits_15 : decode cX7_sits 15 = .ok (.iload_n 1, 1) := by decide +kernel
theorem dX7_sits_16 : decode cX7_sits 16 = .ok (.bipush 10, 2) := by decide +kernel
theorem dX7_sits_18 : decode cX7_sits 18 = .ok (.if_icmp .lt 23, 3) := by decide +kernel
theorem dX7_sits_21 : decode cX7_sits 21 = .ok (.iload_n 1, 1) := by decide +kernel
theorem dX7_sits_22 : decode cX7_sits 22 = .ok (.bipush 40, 2) := by decide +kernel
theorem dX7_sits_24 : decode cX7_sits 24 = .ok (.if_icmp .ge 17, 3) := by decide +kernel
theorem dX7_sits_27 : decode cX7_sits 27 = .ok (.iload_n 1, 1) := by decide +kernel
theorem dX7_sits_28 : decode cX7_sits 28 = .ok (.bipush 10, 2) := by decide +kernel
theorem dX7_sits_30 : decode cX7_sits 30 = .ok (.irem, 1) := by decide +kernel
theorem dX7_sits_31 : decode cX7_sits 31 = .ok (.invokestatic 59, 3) := by decide +kernel
theorem dX7_sits_34 : decode cX7_sits 34 = .ok (.ifCond .eq 7, 3) := by decide +kernel
theorem dX7_sits_37 : decode cX7_sits 37 = .ok (.iconst 1, 1) := by decide +kernel
theorem dX7_sits_38 : decode cX7_sits 38 = .ok (.goto 4, 3) := by decide +kernel
theorem dX7_sits_41 : decode cX7_sits 41 = .ok (.iconst 0, 1) := by decide +kernel
theorem dX7_sits_42 : decode cX7_sits 42 = .ok (.istore_n 3, 1) := by decide +kernel
theorem dX7_sits_43 : decode cX7_sits 43 = .ok (.iload_n 2, 1) := by decide +kernel
theorem dX7_sits_44 : decode cX7_sits 44 = .ok (.ifCond .ne 10, 3) := by decide +kernel
theorem dX7_sits_47 : decode cX7_sits 47 = .ok (.iload_n 3, 1) := by decide +kernel
theorem dX7_sits_48 : decode cX7_sits 48 = .ok (.ifCond .ne 6, 3) := by decide +kernel
theorem dX7_sits_51 : decode cX7_sits 51 = .ok (.bipush (-2), 2) := by decide +kernel
theorem dX7_sits_53 : decode cX7_sits 53 = .ok (.ireturn, 1) := by decide +kernel
theorem dX7_sits_54 : decode cX7_sits 54 = .ok (.aload_n 0, 1) := by decide +kernel
theorem dX7_sits_55 : decode cX7_sits 55 = .ok (.getfield 27, 3) := by decide +kernel
theorem dX7_sits_58 : decode cX7_sits 58 = .ok (.invokevirtual 84, 3) := by decide +kernel
theorem dX7_sits_61 : decode cX7_sits 61 = .ok (.bipush (-6), 2) := by decide +kernel
theorem dX7_sits_63 : decode cX7_sits 63 = .ok (.if_icmp .eq 6, 3) := by decide +kernel
theorem dX7_sits_66 : decode cX7_sits 66 = .ok (.bipush (-5), 2) := by decide +kernel
theorem dX7_sits_68 : decode cX7_sits 68 = .ok (.ireturn, 1) := by decide +kernel
theorem dX7_sits_69 : decode cX7_sits 69 = .ok (.aload_n 0, 1) := by decide +kernel
theorem dX7_sits_70 : decode cX7_sits 70 = .ok (.getfield 34, 3) := by decide +kernel
theorem dX7_sits_73 : decode cX7_sits 73 = .ok (.aload_n 0, 1) := by decide +kernel
theorem dX7_sits_74 : decode cX7_sits 74 = .ok (.getfield 10, 3) := by decide +kernel
theorem dX7_sits_77 : decode cX7_sits 77 = .ok (.aload_n 0, 1) := by decide +kernel
theorem dX7_sits_78 : decode cX7_sits 78 = .ok (.getfield 27, 3) := by decide +kernel
theorem dX7_sits_81 : decode cX7_sits 81 = .ok (.invokevirtual 91, 3) := by decide +kernel
theorem dX7_sits_84 : decode cX7_sits 84 = .ok (.iload_n 2, 1) := by decide +kernel
theorem dX7_sits_85 : decode cX7_sits 85 = .ok (.ifCond .eq 14, 3) := by decide +kernel
theorem dX7_sits_88 : decode cX7_sits 88 = .ok (.aload_n 0, 1) := by decide +kernel
theorem dX7_sits_89 : decode cX7_sits 89 = .ok (.getfield 34, 3) := by decide +kernel
theorem dX7_sits_92 : decode cX7_sits 92 = .ok (.iload_n 1, 1) := by decide +kernel
theorem dX7_sits_93 : decode cX7_sits 93 = .ok (.invokevirtual 95, 3) := by decide +kernel
theorem dX7_sits_96 : decode cX7_sits 96 = .ok (.goto 18, 3) := by decide +kernel
theorem dX7_sits_99 : decode cX7_sits 99 = .ok (.aload_n 0, 1) := by decide +kernel
theorem dX7_sits_100 : decode cX7_sits 100 = .ok (.getfield 34, 3) := by decide +kernel
theorem dX7_sits_103 : decode cX7_sits 103 = .ok (.iload_n 1, 1) := by decide +kernel
theorem dX7_sits_104 : decode cX7_sits 104 = .ok (.bipush 10, 2) := by decide +kernel
theorem dX7_sits_106 : decode cX7_sits 106 = .ok (.idiv, 1) := by decide +kernel
theorem dX7_sits_107 : decode cX7_sits 107 = .ok (.iload_n 1, 1) := by decide +kernel
theorem dX7_sits_108 : decode cX7_sits 108 = .ok (.bipush 10, 2) := by decide +kernel
theorem dX7_sits_110 : decode cX7_sits 110 = .ok (.irem, 1) := by decide +kernel
theorem dX7_sits_111 : decode cX7_sits 111 = .ok (.invokevirtual 99, 3) := by decide +kernel
theorem dX7_sits_114 : decode cX7_sits 114 = .ok (.ireturn, 1) := by decide +kernel
theorem dX7_sit_0 : decode cX7_sit 0 = .ok (.aload_n 0, 1) := by decide +kernel
theorem dX7_sit_1 : decode cX7_sit 1 = .ok (.getfield 27, 3) := by decide +kernel
theorem dX7_sit_4 : decode cX7_sit 4 = .ok (.invokevirtual 84, 3) := by decide +kernel
theorem dX7_sit_7 : decode cX7_sit 7 = .ok (.bipush (-6), 2) := by decide +kernel
theorem dX7_sit_9 : decode cX7_sit 9 = .ok (.if_icmp .eq 6, 3) := by decide +kernel
theorem dX7_sit_12 : decode cX7_sit 12 = .ok (.bipush (-5), 2) := by decide +kernel
theorem dX7_sit_14 : decode cX7_sit 14 = .ok (.ireturn, 1) := by decide +kernel
theorem dX7_sit_15 : decode cX7_sit 15 = .ok (.aload_n 0, 1) := by decide +kernel
theorem dX7_sit_16 : decode cX7_sit 16 = .ok (.getfield 34, 3) := by decide +kernel
theorem dX7_sit_19 : decode cX7_sit 19 = .ok (.aload_n 0, 1) := by decide +kernel
theorem dX7_sit_20 : decode cX7_sit 20 = .ok (.getfield 10, 3) := by decide +kernel
theorem dX7_sit_23 : decode cX7_sit 23 = .ok (.aload_n 0, 1) := by decide +kernel
theorem dX7_sit_24 : decode cX7_sit 24 = .ok (.getfield 27, 3) := by decide +kernel
theorem dX7_sit_27 : decode cX7_sit 27 = .ok (.invokevirtual 91, 3) := by decide +kernel
theorem dX7_sit_30 : decode cX7_sit 30 = .ok (.aload_n 0, 1) := by decide +kernel
theorem dX7_sit_31 : decode cX7_sit 31 = .ok (.getfield 34, 3) := by decide +kernel
theorem dX7_sit_34 : decode cX7_sit 34 = .ok (.getfield 103, 3) := by decide +kernel
theorem dX7_sit_37 : decode cX7_sit 37 = .ok (.ifCond .le 6, 3) := by decide +kernel
theorem dX7_sit_40 : decode cX7_sit 40 = .ok (.bipush (-5), 2) := by decide +kernel
theorem dX7_sit_42 : decode cX7_sit 42 = .ok (.ireturn, 1) := by decide +kernel
theorem dX7_sit_43 : decode cX7_sit 43 = .ok (.aload_n 0, 1) := by decide +kernel
theorem dX7_sit_44 : decode cX7_sit 44 = .ok (.getfield 34, 3) := by decide +kernel
theorem dX7_sit_47 : decode cX7_sit 47 = .ok (.getfield 106, 3) := by decide +kernel
theorem dX7_sit_50 : decode cX7_sit 50 = .ok (.aload_n 0, 1) := by decide +kernel
theorem dX7_sit_51 : decode cX7_sit 51 = .ok (.getfield 10, 3) := by decide +kernel
theorem dX7_sit_54 : decode cX7_sit 54 = .ok (.getfield 67, 3) := by decide +kernel
theorem dX7_sit_57 : decode cX7_sit 57 = .ok (.iconst 4, 1) := by decide +kernel
theorem dX7_sit_58 : decode cX7_sit 58 = .ok (.invokestatic 107, 3) := by decide +kernel
theorem dX7_sit_61 : decode cX7_sit 61 = .ok (.aload_n 0, 1) := by decide +kernel
theorem dX7_sit_62 : decode cX7_sit 62 = .ok (.getfield 27, 3) := by decide +kernel
theorem dX7_sit_65 : decode cX7_sit 65 = .ok (.iconst 0, 1) := by decide +kernel
theorem dX7_sit_66 : decode cX7_sit 66 = .ok (.putfield 81, 3) := by decide +kernel
theorem dX7_sit_69 : decode cX7_sit 69 = .ok (.aload_n 0, 1) := by decide +kernel
theorem dX7_sit_70 : decode cX7_sit 70 = .ok (.getfield 34, 3) := by decide +kernel
theorem dX7_sit_73 : decode cX7_sit 73 = .ok (.getfield 111, 3) := by decide +kernel
theorem dX7_sit_76 : decode cX7_sit 76 = .ok (.ireturn, 1) := by decide +kernel
theorem dX7_matter_0 : decode cX7_matter 0 = .ok (.aload_n 0, 1) := by decide +kernel
theorem dX7_matter_1 : decode cX7_matter 1 = .ok (.getfield 10, 3) := by decide +kernel
theorem dX7_matter_4 : decode cX7_matter 4 = .ok (.getfield 114, 3) := by decide +kernel
theorem dX7_matter_7 : decode cX7_matter 7 = .ok (.astore 4, 2) := by decide +kernel
theorem dX7_matter_9 : decode cX7_matter 9 = .ok (.iload_n 1, 1) := by decide +kernel
theorem dX7_matter_10 : decode cX7_matter 10 = .ok (.invokestatic 59, 3) := by decide +kernel
theorem dX7_matter_13 : decode cX7_matter 13 = .ok (.ifCond .ne 5, 3) := by decide +kernel
theorem dX7_matter_16 : decode cX7_matter 16 = .ok (.iconst (-1), 1) := by decide +kernel
theorem dX7_matter_17 : decode cX7_matter 17 = .ok (.ireturn, 1) := by decide +kernel
theorem dX7_matter_18 : decode cX7_matter 18 = .ok (.iload_n 2, 1) := by decide +kernel
theorem dX7_matter_19 : decode cX7_matter 19 = .ok (.iconst 1, 1) := by decide +kernel
theorem dX7_matter_20 : decode cX7_matter 20 = .ok (.if_icmp .lt 24, 3) := by decide +kernel
theorem dX7_matter_23 : decode cX7_matter 23 = .ok (.iload_n 2, 1) := by decide +kernel
theorem dX7_matter_24 : decode cX7_matter 24 = .ok (.bipush 60, 2) := by decide +kernel
theorem dX7_matter_26 : decode cX7_matter 26 = .ok (.if_icmp .gt 18, 3) := by decide +kernel
theorem dX7_matter_29 : decode cX7_matter 29 = .ok (.iload_n 3, 1) := by decide +kernel
theorem dX7_matter_30 : decode cX7_matter 30 = .ok (.ifCond .lt 14, 3) := by decide +kernel
theorem dX7_matter_33 : decode cX7_matter 33 = .ok (.iload_n 3, 1) := by decide +kernel
theorem dX7_matter_34 : decode cX7_matter 34 = .ok (.iconst 1, 1) := by decide +kernel
theorem dX7_matter_35 : decode cX7_matter 35 = .ok (.aload 4, 2) := by decide +kernel
theorem dX7_matter_37 : decode cX7_matter 37 = .ok (.getfield 118, 3) := by decide +kernel
theorem dX7_matter_40 : decode cX7_matter 40 = .ok (.ishl, 1) := by decide +kernel
theorem dX7_matter_41 : decode cX7_matter 41 = .ok (.if_icmp .lt 6, 3) := by decide +kernel
theorem dX7_matter_44 : decode cX7_matter 44 = .ok (.bipush (-2), 2) := by decide +kernel
theorem dX7_matter_46 : decode cX7_matter 46 = .ok (.ireturn, 1) := by decide +kernel
theorem dX7_matter_47 : decode cX7_matter 47 = .ok (.aload 4, 2) := by decide +kernel
theorem dX7_matter_49 : decode cX7_matter 49 = .ok (.iload_n 1, 1) := by decide +kernel
theorem dX7_matter_50 : decode cX7_matter 50 = .ok (.iload_n 2, 1) := by decide +kernel
theorem dX7_matter_51 : decode cX7_matter 51 = .ok (.iload_n 3, 1) := by decide +kernel
theorem dX7_matter_52 : decode cX7_matter 52 = .ok (.invokevirtual 121, 3) := by decide +kernel
theorem dX7_matter_55 : decode cX7_matter 55 = .ok (.ifCond .eq 13, 3) := by decide +kernel
theorem dX7_matter_58 : decode cX7_matter 58 = .ok (.aload 4, 2) := by decide +kernel
theorem dX7_matter_60 : decode cX7_matter 60 = .ok (.getfield 118, 3) := by decide +kernel
theorem dX7_matter_63 : decode cX7_matter 63 = .ok (.iconst 1, 1) := by decide +kernel
theorem dX7_matter_64 : decode cX7_matter 64 = .ok (.isub, 1) := by decide +kernel
theorem dX7_matter_65 : decode cX7_matter 65 = .ok (.goto 5, 3) := by decide +kernel
theorem dX7_matter_68 : decode cX7_matter 68 = .ok (.bipush (-4), 2) := by decide +kernel
theorem dX7_matter_70 : decode cX7_matter 70 = .ok (.ireturn, 1) := by decide +kernel
theorem dX7_about_0 : decode cX7_about 0 = .ok (.aload_n 0, 1) := by decide +kernel
theorem dX7_about_1 : decode cX7_about 1 = .ok (.getfield 10, 3) := by decide +kernel
theorem dX7_about_4 : decode cX7_about 4 = .ok (.getfield 114, 3) := by decide +kernel
theorem dX7_about_7 : decode cX7_about 7 = .ok (.astore_n 3, 1) := by decide +kernel
theorem dX7_about_8 : decode cX7_about 8 = .ok (.iload_n 1, 1) := by decide +kernel
theorem dX7_about_9 : decode cX7_about 9 = .ok (.ifCond .lt 11, 3) := by decide +kernel
theorem dX7_about_12 : decode cX7_about 12 = .ok (.iload_n 1, 1) := by decide +kernel
theorem dX7_about_13 : decode cX7_about 13 = .ok (.aload_n 3, 1) := by decide +kernel
theorem dX7_about_14 : decode cX7_about 14 = .ok (.getfield 118, 3) := by decide +kernel
theorem dX7_about_17 : decode cX7_about 17 = .ok (.if_icmp .lt 5, 3) := by decide +kernel
theorem dX7_about_20 : decode cX7_about 20 = .ok (.iconst (-1), 1) := by decide +kernel
theorem dX7_about_21 : decode cX7_about 21 = .ok (.ireturn, 1) := by decide +kernel
theorem dX7_about_22 : decode cX7_about 22 = .ok (.iload_n 2, 1) := by decide +kernel
theorem dX7_about_23 : decode cX7_about 23 = .ok (.tableswitch 46 0 2 #[25, 32, 39], 25) := by decide +kernel
theorem dX7_about_48 : decode cX7_about 48 = .ok (.aload_n 3, 1) := by decide +kernel
theorem dX7_about_49 : decode cX7_about 49 = .ok (.getfield 124, 3) := by decide +kernel
theorem dX7_about_52 : decode cX7_about 52 = .ok (.iload_n 1, 1) := by decide +kernel
theorem dX7_about_53 : decode cX7_about 53 = .ok (.iaload, 1) := by decide +kernel
theorem dX7_about_54 : decode cX7_about 54 = .ok (.ireturn, 1) := by decide +kernel
theorem dX7_about_55 : decode cX7_about 55 = .ok (.aload_n 3, 1) := by decide +kernel
theorem dX7_about_56 : decode cX7_about 56 = .ok (.getfield 127, 3) := by decide +kernel
theorem dX7_about_59 : decode cX7_about 59 = .ok (.iload_n 1, 1) := by decide +kernel
theorem dX7_about_60 : decode cX7_about 60 = .ok (.iaload, 1) := by decide +kernel
theorem dX7_about_61 : decode cX7_about 61 = .ok (.ireturn, 1) := by decide +kernel
theorem dX7_about_62 : decode cX7_about 62 = .ok (.aload_n 3, 1) := by decide +kernel
theorem dX7_about_63 : decode cX7_about 63 = .ok (.getfield 129, 3) := by decide +kernel
theorem dX7_about_66 : decode cX7_about 66 = .ok (.iload_n 1, 1) := by decide +kernel
theorem dX7_about_67 : decode cX7_about 67 = .ok (.iaload, 1) := by decide +kernel
theorem dX7_about_68 : decode cX7_about 68 = .ok (.ireturn, 1) := by decide +kernel
theorem dX7_about_69 : decode cX7_about 69 = .ok (.bipush (-2), 2) := by decide +kernel
theorem dX7_about_71 : decode cX7_about 71 = .ok (.ireturn, 1) := by decide +kernel
theorem dX7_clear_0 : decode cX7_clear 0 = .ok (.aload_n 0, 1) := by decide +kernel
theorem dX7_clear_1 : decode cX7_clear 1 = .ok (.getfield 10, 3) := by decide +kernel
theorem dX7_clear_4 : decode cX7_clear 4 = .ok (.getfield 114, 3) := by decide +kernel
theorem dX7_clear_7 : decode cX7_clear 7 = .ok (.getfield 118, 3) := by decide +kernel
theorem dX7_clear_10 : decode cX7_clear 10 = .ok (.istore_n 1, 1) := by decide +kernel
theorem dX7_clear_11 : decode cX7_clear 11 = .ok (.aload_n 0, 1) := by decide +kernel
theorem dX7_clear_12 : decode cX7_clear 12 = .ok (.getfield 10, 3) := by decide +kernel
theorem dX7_clear_15 : decode cX7_clear 15 = .ok (.getfield 114, 3) := by decide +kernel
theorem dX7_clear_18 : decode cX7_clear 18 = .ok (.iconst 0, 1) := by decide +kernel
theorem dX7_clear_19 : decode cX7_clear 19 = .ok (.putfield 118, 3) := by decide +kernel
theorem dX7_clear_22 : decode cX7_clear 22 = .ok (.iload_n 1, 1) := by decide +kernel
theorem dX7_clear_23 : decode cX7_clear 23 = .ok (.ireturn, 1) := by decide +kernel
theorem dX7_least_0 : decode cX7_least 0 = .ok (.aload_n 0, 1) := by decide +kernel
theorem dX7_least_1 : decode cX7_least 1 = .ok (.getfield 10, 3) := by decide +kernel
theorem dX7_least_4 : decode cX7_least 4 = .ok (.getfield 114, 3) := by decide +kernel
theorem dX7_least_7 : decode cX7_least 7 = .ok (.astore_n 2, 1) := by decide +kernel
theorem dX7_least_8 : decode cX7_least 8 = .ok (.iload_n 1, 1) := by decide +kernel
theorem dX7_least_9 : decode cX7_least 9 = .ok (.iconst (-1), 1) := by decide +kernel
theorem dX7_least_10 : decode cX7_least 10 = .ok (.if_icmp .lt 11, 3) := by decide +kernel
theorem dX7_least_13 : decode cX7_least 13 = .ok (.iload_n 1, 1) := by decide +kernel
theorem dX7_least_14 : decode cX7_least 14 = .ok (.aload_n 2, 1) := by decide +kernel
theorem dX7_least_15 : decode cX7_least 15 = .ok (.getfield 118, 3) := by decide +kernel
theorem dX7_least_18 : decode cX7_least 18 = .ok (.if_icmp .lt 6, 3) := by decide +kernel
theorem dX7_least_21 : decode cX7_least 21 = .ok (.bipush (-6), 2) := by decide +kernel
theorem dX7_least_23 : decode cX7_least 23 = .ok (.ireturn, 1) := by decide +kernel
theorem dX7_least_24 : decode cX7_least 24 = .ok (.aload_n 0, 1) := by decide +kernel
theorem dX7_least_25 : decode cX7_least 25 = .ok (.getfield 41, 3) := by decide +kernel
theorem dX7_least_28 : decode cX7_least 28 = .ok (.aload_n 2, 1) := by decide +kernel
theorem dX7_least_29 : decode cX7_least 29 = .ok (.invokevirtual 132, 3) := by decide +kernel
theorem dX7_least_32 : decode cX7_least 32 = .ok (.aload_n 0, 1) := by decide +kernel
theorem dX7_least_33 : decode cX7_least 33 = .ok (.getfield 41, 3) := by decide +kernel
theorem dX7_least_36 : decode cX7_least 36 = .ok (.aload_n 0, 1) := by decide +kernel
theorem dX7_least_37 : decode cX7_least 37 = .ok (.getfield 10, 3) := by decide +kernel
theorem dX7_least_40 : decode cX7_least 40 = .ok (.getfield 67, 3) := by decide +kernel
theorem dX7_least_43 : decode cX7_least 43 = .ok (.iconst 0, 1) := by decide +kernel
theorem dX7_least_44 : decode cX7_least 44 = .ok (.aaload, 1) := by decide +kernel
theorem dX7_least_45 : decode cX7_least 45 = .ok (.invokevirtual 136, 3) := by decide +kernel
theorem dX7_least_48 : decode cX7_least 48 = .ok (.aload_n 0, 1) := by decide +kernel
theorem dX7_least_49 : decode cX7_least 49 = .ok (.getfield 41, 3) := by decide +kernel
theorem dX7_least_52 : decode cX7_least 52 = .ok (.aload_n 2, 1) := by decide +kernel
theorem dX7_least_53 : decode cX7_least 53 = .ok (.ldc 140, 2) := by decide +kernel
theorem dX7_least_55 : decode cX7_least 55 = .ok (.invokevirtual 141, 3) := by decide +kernel
theorem dX7_least_58 : decode cX7_least 58 = .ok (.istore_n 3, 1) := by decide +kernel
theorem dX7_least_59 : decode cX7_least 59 = .ok (.iload_n 1, 1) := by decide +kernel
theorem dX7_least_60 : decode cX7_least 60 = .ok (.iconst (-1), 1) := by decide +kernel
theorem dX7_least_61 : decode cX7_least 61 = .ok (.if_icmp .ne 10, 3) := by decide +kernel
theorem dX7_least_64 : decode cX7_least 64 = .ok (.aload_n 2, 1) := by decide +kernel
theorem dX7_least_65 : decode cX7_least 65 = .ok (.invokevirtual 145, 3) := by decide +kernel
theorem dX7_least_68 : decode cX7_least 68 = .ok (.iload_n 3, 1) := by decide +kernel
theorem dX7_least_69 : decode cX7_least 69 = .ok (.iadd, 1) := by decide +kernel
theorem dX7_least_70 : decode cX7_least 70 = .ok (.ireturn, 1) := by decide +kernel
theorem dX7_least_71 : decode cX7_least 71 = .ok (.aload_n 0, 1) := by decide +kernel
theorem dX7_least_72 : decode cX7_least 72 = .ok (.getfield 41, 3) := by decide +kernel
theorem dX7_least_75 : decode cX7_least 75 = .ok (.aload_n 2, 1) := by decide +kernel
theorem dX7_least_76 : decode cX7_least 76 = .ok (.iload_n 3, 1) := by decide +kernel
theorem dX7_least_77 : decode cX7_least 77 = .ok (.invokevirtual 148, 3) := by decide +kernel
theorem dX7_least_80 : decode cX7_least 80 = .ok (.aload_n 0, 1) := by decide +kernel
theorem dX7_least_81 : decode cX7_least 81 = .ok (.getfield 41, 3) := by decide +kernel
theorem dX7_least_84 : decode cX7_least 84 = .ok (.getfield 152, 3) := by decide +kernel
theorem dX7_least_87 : decode cX7_least 87 = .ok (.iload_n 1, 1) := by decide +kernel
theorem dX7_least_88 : decode cX7_least 88 = .ok (.iaload, 1) := by decide +kernel
theorem dX7_least_89 : decode cX7_least 89 = .ok (.ireturn, 1) := by decide +kernel
theorem dX7_dealt_0 : decode cX7_dealt 0 = .ok (.iload_n 2, 1) := by decide +kernel
theorem dX7_dealt_1 : decode cX7_dealt 1 = .ok (.iconst (-1), 1) := by decide +kernel
theorem dX7_dealt_2 : decode cX7_dealt 2 = .ok (.if_icmp .eq 12, 3) := by decide +kernel
theorem dX7_dealt_5 : decode cX7_dealt 5 = .ok (.iload_n 2, 1) := by decide +kernel
theorem dX7_dealt_6 : decode cX7_dealt 6 = .ok (.invokestatic 59, 3) := by decide +kernel
theorem dX7_dealt_9 : decode cX7_dealt 9 = .ok (.ifCond .ne 5, 3) := by decide +kernel
theorem dX7_dealt_12 : decode cX7_dealt 12 = .ok (.iconst (-1), 1) := by decide +kernel
theorem dX7_dealt_13 : decode cX7_dealt 13 = .ok (.ireturn, 1) := by decide +kernel
theorem dX7_dealt_14 : decode cX7_dealt 14 = .ok (.iload_n 1, 1) := by decide +kernel
theorem dX7_dealt_15 : decode cX7_dealt 15 = .ok (.ifCond .lt 9, 3) := by decide +kernel
theorem dX7_dealt_18 : decode cX7_dealt 18 = .ok (.iload_n 1, 1) := by decide +kernel
theorem dX7_dealt_19 : decode cX7_dealt 19 = .ok (.bipush 20, 2) := by decide +kernel
theorem dX7_dealt_21 : decode cX7_dealt 21 = .ok (.if_icmp .le 6, 3) := by decide +kernel
theorem dX7_dealt_24 : decode cX7_dealt 24 = .ok (.bipush (-2), 2) := by decide +kernel
theorem dX7_dealt_26 : decode cX7_dealt 26 = .ok (.ireturn, 1) := by decide +kernel
theorem dX7_dealt_27 : decode cX7_dealt 27 = .ok (.aload_n 0, 1) := by decide +kernel
theorem dX7_dealt_28 : decode cX7_dealt 28 = .ok (.getfield 10, 3) := by decide +kernel
theorem dX7_dealt_31 : decode cX7_dealt 31 = .ok (.getfield 114, 3) := by decide +kernel
theorem dX7_dealt_34 : decode cX7_dealt 34 = .ok (.astore_n 3, 1) := by decide +kernel
theorem dX7_dealt_35 : decode cX7_dealt 35 = .ok (.aload_n 0, 1) := by decide +kernel
theorem dX7_dealt_36 : decode cX7_dealt 36 = .ok (.getfield 41, 3) := by decide +kernel
theorem dX7_dealt_39 : decode cX7_dealt 39 = .ok (.aload_n 3, 1) := by decide +kernel
theorem dX7_dealt_40 : decode cX7_dealt 40 = .ok (.invokevirtual 155, 3) := by decide +kernel
theorem dX7_dealt_43 : decode cX7_dealt 43 = .ok (.aload_n 0, 1) := by decide +kernel
theorem dX7_dealt_44 : decode cX7_dealt 44 = .ok (.getfield 41, 3) := by decide +kernel
theorem dX7_dealt_47 : decode cX7_dealt 47 = .ok (.getfield 158, 3) := by decide +kernel
theorem dX7_dealt_50 : decode cX7_dealt 50 = .ok (.iconst 1, 1) := by decide +kernel
theorem dX7_dealt_51 : decode cX7_dealt 51 = .ok (.if_icmp .lt 14, 3) := by decide +kernel
theorem dX7_dealt_54 : decode cX7_dealt 54 = .ok (.aload_n 0, 1) := by decide +kernel
theorem dX7_dealt_55 : decode cX7_dealt 55 = .ok (.getfield 41, 3) := by decide +kernel
theorem dX7_dealt_58 : decode cX7_dealt 58 = .ok (.getfield 158, 3) := by decide +kernel
theorem dX7_dealt_61 : decode cX7_dealt 61 = .ok (.iconst 4, 1) := by decide +kernel
theorem dX7_dealt_62 : decode cX7_dealt 62 = .ok (.if_icmp .le 6, 3) := by decide +kernel
theorem dX7_dealt_65 : decode cX7_dealt 65 = .ok (.bipush (-5), 2) := by decide +kernel
theorem dX7_dealt_67 : decode cX7_dealt 67 = .ok (.ireturn, 1) := by decide +kernel
theorem dX7_dealt_68 : decode cX7_dealt 68 = .ok (.iload_n 2, 1) := by decide +kernel
theorem dX7_dealt_69 : decode cX7_dealt 69 = .ok (.iconst (-1), 1) := by decide +kernel
theorem dX7_dealt_70 : decode cX7_dealt 70 = .ok (.if_icmp .eq 14, 3) := by decide +kernel
theorem dX7_dealt_73 : decode cX7_dealt 73 = .ok (.aload_n 3, 1) := by decide +kernel
theorem dX7_dealt_74 : decode cX7_dealt 74 = .ok (.iload_n 2, 1) := by decide +kernel
theorem dX7_dealt_75 : decode cX7_dealt 75 = .ok (.invokevirtual 161, 3) := by decide +kernel
theorem dX7_dealt_78 : decode cX7_dealt 78 = .ok (.ifCond .ne 6, 3) := by decide +kernel
theorem dX7_dealt_81 : decode cX7_dealt 81 = .ok (.bipush (-6), 2) := by decide +kernel
theorem dX7_dealt_83 : decode cX7_dealt 83 = .ok (.ireturn, 1) := by decide +kernel
theorem dX7_dealt_84 : decode cX7_dealt 84 = .ok (.aload_n 0, 1) := by decide +kernel
theorem dX7_dealt_85 : decode cX7_dealt 85 = .ok (.getfield 41, 3) := by decide +kernel
theorem dX7_dealt_88 : decode cX7_dealt 88 = .ok (.aload_n 3, 1) := by decide +kernel
theorem dX7_dealt_89 : decode cX7_dealt 89 = .ok (.invokevirtual 132, 3) := by decide +kernel
theorem dX7_dealt_92 : decode cX7_dealt 92 = .ok (.aload_n 0, 1) := by decide +kernel
theorem dX7_dealt_93 : decode cX7_dealt 93 = .ok (.getfield 41, 3) := by decide +kernel
theorem dX7_dealt_96 : decode cX7_dealt 96 = .ok (.aload_n 3, 1) := by decide +kernel
theorem dX7_dealt_97 : decode cX7_dealt 97 = .ok (.iload_n 1, 1) := by decide +kernel
theorem dX7_dealt_98 : decode cX7_dealt 98 = .ok (.invokevirtual 164, 3) := by decide +kernel
theorem dX7_dealt_101 : decode cX7_dealt 101 = .ok (.iload_n 2, 1) := by decide +kernel
theorem dX7_dealt_102 : decode cX7_dealt 102 = .ok (.iconst (-1), 1) := by decide +kernel
theorem dX7_dealt_103 : decode cX7_dealt 103 = .ok (.if_icmp .ne 18, 3) := by decide +kernel
theorem dX7_dealt_106 : decode cX7_dealt 106 = .ok (.aload_n 3, 1) := by decide +kernel
theorem dX7_dealt_107 : decode cX7_dealt 107 = .ok (.invokevirtual 145, 3) := by decide +kernel
theorem dX7_dealt_110 : decode cX7_dealt 110 = .ok (.aload_n 0, 1) := by decide +kernel
theorem dX7_dealt_111 : decode cX7_dealt 111 = .ok (.getfield 41, 3) := by decide +kernel
theorem dX7_dealt_114 : decode cX7_dealt 114 = .ok (.getfield 167, 3) := by decide +kernel
theorem dX7_dealt_117 : decode cX7_dealt 117 = .ok (.iadd, 1) := by decide +kernel
theorem dX7_dealt_118 : decode cX7_dealt 118 = .ok (.goto 12, 3) := by decide +kernel
theorem dX7_dealt_121 : decode cX7_dealt 121 = .ok (.aload_n 0, 1) := by decide +kernel
theorem dX7_dealt_122 : decode cX7_dealt 122 = .ok (.getfield 41, 3) := by decide +kernel
theorem dX7_dealt_125 : decode cX7_dealt 125 = .ok (.getfield 170, 3) := by decide +kernel
theorem dX7_dealt_128 : decode cX7_dealt 128 = .ok (.iload_n 2, 1) := by decide +kernel
theorem dX7_dealt_129 : decode cX7_dealt 129 = .ok (.iaload, 1) := by decide +kernel
theorem dX7_dealt_130 : decode cX7_dealt 130 = .ok (.ireturn, 1) := by decide +kernel
theorem dX7_lend_0 : decode cX7_lend 0 = .ok (.iload_n 1, 1) := by decide +kernel
theorem dX7_lend_1 : decode cX7_lend 1 = .ok (.invokestatic 59, 3) := by decide +kernel
theorem dX7_lend_4 : decode cX7_lend 4 = .ok (.ifCond .eq 15, 3) := by decide +kernel
theorem dX7_lend_7 : decode cX7_lend 7 = .ok (.iload_n 2, 1) := by decide +kernel
theorem dX7_lend_8 : decode cX7_lend 8 = .ok (.invokestatic 59, 3) := by decide +kernel
theorem dX7_lend_11 : decode cX7_lend 11 = .ok (.ifCond .eq 8, 3) := by decide +kernel
theorem dX7_lend_14 : decode cX7_lend 14 = .ok (.iload_n 1, 1) := by decide +kernel
theorem dX7_lend_15 : decode cX7_lend 15 = .ok (.iload_n 2, 1) := by decide +kernel
theorem dX7_lend_16 : decode cX7_lend 16 = .ok (.if_icmp .ne 5, 3) := by decide +kernel
theorem dX7_lend_19 : decode cX7_lend 19 = .ok (.iconst (-1), 1) := by decide +kernel
theorem dX7_lend_20 : decode cX7_lend 20 = .ok (.ireturn, 1) := by decide +kernel
theorem dX7_lend_21 : decode cX7_lend 21 = .ok (.iload_n 3, 1) := by decide +kernel
theorem dX7_lend_22 : decode cX7_lend 22 = .ok (.ifCond .lt 9, 3) := by decide +kernel
theorem dX7_lend_25 : decode cX7_lend 25 = .ok (.iload_n 3, 1) := by decide +kernel
theorem dX7_lend_26 : decode cX7_lend 26 = .ok (.bipush 99, 2) := by decide +kernel
theorem dX7_lend_28 : decode cX7_lend 28 = .ok (.if_icmp .le 6, 3) := by decide +kernel
theorem dX7_lend_31 : decode cX7_lend 31 = .ok (.bipush (-2), 2) := by decide +kernel
theorem dX7_lend_33 : decode cX7_lend 33 = .ok (.ireturn, 1) := by decide +kernel
theorem dX7_lend_34 : decode cX7_lend 34 = .ok (.aload_n 0, 1) := by decide +kernel
theorem dX7_lend_35 : decode cX7_lend 35 = .ok (.getfield 10, 3) := by decide +kernel
theorem dX7_lend_38 : decode cX7_lend 38 = .ok (.getfield 173, 3) := by decide +kernel
