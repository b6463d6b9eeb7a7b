theorem dX8_sittingFault_128 : decode cX8_sittingFault 128 = .ok (.invokestatic 78, 3) := by decide +kernel
theorem dX8_sittingFault_131 : decode cX8_sittingFault 131 = .ok (.ifCond .eq 7, 3) := by decide +kernel
theorem dX8_sittingFault_134 : decode cX8_sittingFault 134 = .ok (.iconst 4, 1) := by decide +kernel
theorem dX8_sittingFault_135 : decode cX8_sittingFault 135 = .ok (.goto 5, 3) := by decide +kernel
theorem dX8_sittingFault_138 : decode cX8_sittingFault 138 = .ok (.bipush (-6), 2) := by decide +kernel
theorem dX8_sittingFault_140 : decode cX8_sittingFault 140 = .ok (.istore 4, 2) := by decide +kernel
theorem dX8_sittingFault_142 : decode cX8_sittingFault 142 = .ok (.goto 30, 3) := by decide +kernel
theorem dX8_sittingFault_145 : decode cX8_sittingFault 145 = .ok (.iload_n 3, 1) := by decide +kernel
theorem dX8_sittingFault_146 : decode cX8_sittingFault 146 = .ok (.invokestatic 78, 3) := by decide +kernel
theorem dX8_sittingFault_149 : decode cX8_sittingFault 149 = .ok (.ifCond .eq 19, 3) := by decide +kernel
theorem dX8_sittingFault_152 : decode cX8_sittingFault 152 = .ok (.iload_n 3, 1) := by decide +kernel
theorem dX8_sittingFault_153 : decode cX8_sittingFault 153 = .ok (.aload_n 0, 1) := by decide +kernel
theorem dX8_sittingFault_154 : decode cX8_sittingFault 154 = .ok (.getfield 20, 3) := by decide +kernel
theorem dX8_sittingFault_157 : decode cX8_sittingFault 157 = .ok (.iload_n 2, 1) := by decide +kernel
theorem dX8_sittingFault_158 : decode cX8_sittingFault 158 = .ok (.iconst 1, 1) := by decide +kernel
theorem dX8_sittingFault_159 : decode cX8_sittingFault 159 = .ok (.isub, 1) := by decide +kernel
theorem dX8_sittingFault_160 : decode cX8_sittingFault 160 = .ok (.iaload, 1) := by decide +kernel
theorem dX8_sittingFault_161 : decode cX8_sittingFault 161 = .ok (.if_icmp .eq 7, 3) := by decide +kernel
theorem dX8_sittingFault_164 : decode cX8_sittingFault 164 = .ok (.iconst 0, 1) := by decide +kernel
theorem dX8_sittingFault_165 : decode cX8_sittingFault 165 = .ok (.goto 5, 3) := by decide +kernel
theorem dX8_sittingFault_168 : decode cX8_sittingFault 168 = .ok (.bipush (-6), 2) := by decide +kernel
theorem dX8_sittingFault_170 : decode cX8_sittingFault 170 = .ok (.istore 4, 2) := by decide +kernel
theorem dX8_sittingFault_172 : decode cX8_sittingFault 172 = .ok (.iload 4, 2) := by decide +kernel
theorem dX8_sittingFault_174 : decode cX8_sittingFault 174 = .ok (.ifCond .ge 5, 3) := by decide +kernel
theorem dX8_sittingFault_177 : decode cX8_sittingFault 177 = .ok (.iload_n 2, 1) := by decide +kernel
theorem dX8_sittingFault_178 : decode cX8_sittingFault 178 = .ok (.ireturn, 1) := by decide +kernel
theorem dX8_sittingFault_179 : decode cX8_sittingFault 179 = .ok (.iload 4, 2) := by decide +kernel
theorem dX8_sittingFault_181 : decode cX8_sittingFault 181 = .ok (.istore_n 1, 1) := by decide +kernel
theorem dX8_sittingFault_182 : decode cX8_sittingFault 182 = .ok (.iinc 2 1, 3) := by decide +kernel
theorem dX8_sittingFault_185 : decode cX8_sittingFault 185 = .ok (.goto (-181), 3) := by decide +kernel
theorem dX8_sittingFault_188 : decode cX8_sittingFault 188 = .ok (.iload_n 1, 1) := by decide +kernel
theorem dX8_sittingFault_189 : decode cX8_sittingFault 189 = .ok (.ifCond .ne 8, 3) := by decide +kernel
theorem dX8_sittingFault_192 : decode cX8_sittingFault 192 = .ok (.bipush (-6), 2) := by decide +kernel
theorem dX8_sittingFault_194 : decode cX8_sittingFault 194 = .ok (.goto 7, 3) := by decide +kernel
theorem dX8_sittingFault_197 : decode cX8_sittingFault 197 = .ok (.aload_n 0, 1) := by decide +kernel
theorem dX8_sittingFault_198 : decode cX8_sittingFault 198 = .ok (.getfield 75, 3) := by decide +kernel
theorem dX8_sittingFault_201 : decode cX8_sittingFault 201 = .ok (.ireturn, 1) := by decide +kernel
theorem dX8_bookFault_0 : decode cX8_bookFault 0 = .ok (.iconst 0, 1) := by decide +kernel
theorem dX8_bookFault_1 : decode cX8_bookFault 1 = .ok (.istore_n 1, 1) := by decide +kernel
theorem dX8_bookFault_2 : decode cX8_bookFault 2 = .ok (.iconst 0, 1) := by decide +kernel
theorem dX8_bookFault_3 : decode cX8_bookFault 3 = .ok (.istore_n 2, 1) := by decide +kernel
theorem dX8_bookFault_4 : decode cX8_bookFault 4 = .ok (.iload_n 2, 1) := by decide +kernel
theorem dX8_bookFault_5 : decode cX8_bookFault 5 = .ok (.aload_n 0, 1) := by decide +kernel
theorem dX8_bookFault_6 : decode cX8_bookFault 6 = .ok (.getfield 75, 3) := by decide +kernel
theorem dX8_bookFault_9 : decode cX8_bookFault 9 = .ok (.if_icmp .ge 75, 3) := by decide +kernel
theorem dX8_bookFault_12 : decode cX8_bookFault 12 = .ok (.iload_n 1, 1) := by decide +kernel
theorem dX8_bookFault_13 : decode cX8_bookFault 13 = .ok (.aload_n 0, 1) := by decide +kernel
theorem dX8_bookFault_14 : decode cX8_bookFault 14 = .ok (.getfield 20, 3) := by decide +kernel
theorem dX8_bookFault_17 : decode cX8_bookFault 17 = .ok (.iload_n 2, 1) := by decide +kernel
theorem dX8_bookFault_18 : decode cX8_bookFault 18 = .ok (.iaload, 1) := by decide +kernel
theorem dX8_bookFault_19 : decode cX8_bookFault 19 = .ok (.bipush 42, 2) := by decide +kernel
theorem dX8_bookFault_21 : decode cX8_bookFault 21 = .ok (.if_icmp .ne 7, 3) := by decide +kernel
theorem dX8_bookFault_24 : decode cX8_bookFault 24 = .ok (.iconst 1, 1) := by decide +kernel
theorem dX8_bookFault_25 : decode cX8_bookFault 25 = .ok (.goto 4, 3) := by decide +kernel
theorem dX8_bookFault_28 : decode cX8_bookFault 28 = .ok (.iconst 0, 1) := by decide +kernel
theorem dX8_bookFault_29 : decode cX8_bookFault 29 = .ok (.iadd, 1) := by decide +kernel
theorem dX8_bookFault_30 : decode cX8_bookFault 30 = .ok (.istore_n 1, 1) := by decide +kernel
theorem dX8_bookFault_31 : decode cX8_bookFault 31 = .ok (.iload_n 2, 1) := by decide +kernel
theorem dX8_bookFault_32 : decode cX8_bookFault 32 = .ok (.bipush 12, 2) := by decide +kernel
theorem dX8_bookFault_34 : decode cX8_bookFault 34 = .ok (.if_icmp .eq 42, 3) := by decide +kernel
theorem dX8_bookFault_37 : decode cX8_bookFault 37 = .ok (.iload_n 1, 1) := by decide +kernel
theorem dX8_bookFault_38 : decode cX8_bookFault 38 = .ok (.iconst 5, 1) := by decide +kernel
theorem dX8_bookFault_39 : decode cX8_bookFault 39 = .ok (.if_icmp .gt 37, 3) := by decide +kernel
theorem dX8_bookFault_42 : decode cX8_bookFault 42 = .ok (.aload_n 0, 1) := by decide +kernel
theorem dX8_bookFault_43 : decode cX8_bookFault 43 = .ok (.getfield 20, 3) := by decide +kernel
theorem dX8_bookFault_46 : decode cX8_bookFault 46 = .ok (.iload_n 2, 1) := by decide +kernel
theorem dX8_bookFault_47 : decode cX8_bookFault 47 = .ok (.iaload, 1) := by decide +kernel
theorem dX8_bookFault_48 : decode cX8_bookFault 48 = .ok (.invokestatic 78, 3) := by decide +kernel
theorem dX8_bookFault_51 : decode cX8_bookFault 51 = .ok (.ifCond .ne 27, 3) := by decide +kernel
theorem dX8_bookFault_54 : decode cX8_bookFault 54 = .ok (.aload_n 0, 1) := by decide +kernel
theorem dX8_bookFault_55 : decode cX8_bookFault 55 = .ok (.getfield 20, 3) := by decide +kernel
theorem dX8_bookFault_58 : decode cX8_bookFault 58 = .ok (.iload_n 2, 1) := by decide +kernel
theorem dX8_bookFault_59 : decode cX8_bookFault 59 = .ok (.iaload, 1) := by decide +kernel
theorem dX8_bookFault_60 : decode cX8_bookFault 60 = .ok (.bipush 46, 2) := by decide +kernel
theorem dX8_bookFault_62 : decode cX8_bookFault 62 = .ok (.if_icmp .eq 16, 3) := by decide +kernel
theorem dX8_bookFault_65 : decode cX8_bookFault 65 = .ok (.aload_n 0, 1) := by decide +kernel
theorem dX8_bookFault_66 : decode cX8_bookFault 66 = .ok (.getfield 20, 3) := by decide +kernel
theorem dX8_bookFault_69 : decode cX8_bookFault 69 = .ok (.iload_n 2, 1) := by decide +kernel
theorem dX8_bookFault_70 : decode cX8_bookFault 70 = .ok (.iaload, 1) := by decide +kernel
theorem dX8_bookFault_71 : decode cX8_bookFault 71 = .ok (.bipush 42, 2) := by decide +kernel
theorem dX8_bookFault_73 : decode cX8_bookFault 73 = .ok (.if_icmp .eq 5, 3) := by decide +kernel
theorem dX8_bookFault_76 : decode cX8_bookFault 76 = .ok (.iload_n 2, 1) := by decide +kernel
theorem dX8_bookFault_77 : decode cX8_bookFault 77 = .ok (.ireturn, 1) := by decide +kernel
theorem dX8_bookFault_78 : decode cX8_bookFault 78 = .ok (.iinc 2 1, 3) := by decide +kernel
theorem dX8_bookFault_81 : decode cX8_bookFault 81 = .ok (.goto (-77), 3) := by decide +kernel
theorem dX8_bookFault_84 : decode cX8_bookFault 84 = .ok (.aload_n 0, 1) := by decide +kernel
theorem dX8_bookFault_85 : decode cX8_bookFault 85 = .ok (.getfield 75, 3) := by decide +kernel
theorem dX8_bookFault_88 : decode cX8_bookFault 88 = .ok (.ifCond .ne 7, 3) := by decide +kernel
theorem dX8_bookFault_91 : decode cX8_bookFault 91 = .ok (.iconst 0, 1) := by decide +kernel
theorem dX8_bookFault_92 : decode cX8_bookFault 92 = .ok (.goto 5, 3) := by decide +kernel
theorem dX8_bookFault_95 : decode cX8_bookFault 95 = .ok (.bipush (-6), 2) := by decide +kernel
theorem dX8_bookFault_97 : decode cX8_bookFault 97 = .ok (.ireturn, 1) := by decide +kernel
theorem dX8_fault_0 : decode cX8_fault 0 = .ok (.iload_n 1, 1) := by decide +kernel
theorem dX8_fault_1 : decode cX8_fault 1 = .ok (.ifCond .ne 10, 3) := by decide +kernel
theorem dX8_fault_4 : decode cX8_fault 4 = .ok (.aload_n 0, 1) := by decide +kernel
theorem dX8_fault_5 : decode cX8_fault 5 = .ok (.invokevirtual 84, 3) := by decide +kernel
theorem dX8_fault_8 : decode cX8_fault 8 = .ok (.goto 17, 3) := by decide +kernel
theorem dX8_fault_11 : decode cX8_fault 11 = .ok (.iload_n 1, 1) := by decide +kernel
theorem dX8_fault_12 : decode cX8_fault 12 = .ok (.iconst 1, 1) := by decide +kernel
theorem dX8_fault_13 : decode cX8_fault 13 = .ok (.if_icmp .ne 10, 3) := by decide +kernel
theorem dX8_fault_16 : decode cX8_fault 16 = .ok (.aload_n 0, 1) := by decide +kernel
theorem dX8_fault_17 : decode cX8_fault 17 = .ok (.invokevirtual 88, 3) := by decide +kernel
theorem dX8_fault_20 : decode cX8_fault 20 = .ok (.goto 5, 3) := by decide +kernel
theorem dX8_fault_23 : decode cX8_fault 23 = .ok (.bipush (-2), 2) := by decide +kernel
theorem dX8_fault_25 : decode cX8_fault 25 = .ok (.ireturn, 1) := by decide +kernel
theorem dX8_listens_0 : decode cX8_listens 0 = .ok (.aload_n 0, 1) := by decide +kernel
theorem dX8_listens_1 : decode cX8_listens 1 = .ok (.getfield 29, 3) := by decide +kernel
theorem dX8_listens_4 : decode cX8_listens 4 = .ok (.iconst 4, 1) := by decide +kernel
theorem dX8_listens_5 : decode cX8_listens 5 = .ok (.iload_n 1, 1) := by decide +kernel
theorem dX8_listens_6 : decode cX8_listens 6 = .ok (.imul, 1) := by decide +kernel
theorem dX8_listens_7 : decode cX8_listens 7 = .ok (.iconst 1, 1) := by decide +kernel
theorem dX8_listens_8 : decode cX8_listens 8 = .ok (.iadd, 1) := by decide +kernel
theorem dX8_listens_9 : decode cX8_listens 9 = .ok (.iaload, 1) := by decide +kernel
theorem dX8_listens_10 : decode cX8_listens 10 = .ok (.iconst 1, 1) := by decide +kernel
theorem dX8_listens_11 : decode cX8_listens 11 = .ok (.if_icmp .ne 21, 3) := by decide +kernel
theorem dX8_listens_14 : decode cX8_listens 14 = .ok (.aload_n 0, 1) := by decide +kernel
theorem dX8_listens_15 : decode cX8_listens 15 = .ok (.getfield 29, 3) := by decide +kernel
theorem dX8_listens_18 : decode cX8_listens 18 = .ok (.iconst 4, 1) := by decide +kernel
theorem dX8_listens_19 : decode cX8_listens 19 = .ok (.iload_n 1, 1) := by decide +kernel
theorem dX8_listens_20 : decode cX8_listens 20 = .ok (.imul, 1) := by decide +kernel
theorem dX8_listens_21 : decode cX8_listens 21 = .ok (.iconst 2, 1) := by decide +kernel
theorem dX8_listens_22 : decode cX8_listens 22 = .ok (.iadd, 1) := by decide +kernel
theorem dX8_listens_23 : decode cX8_listens 23 = .ok (.iaload, 1) := by decide +kernel
theorem dX8_listens_24 : decode cX8_listens 24 = .ok (.iconst 1, 1) := by decide +kernel
theorem dX8_listens_25 : decode cX8_listens 25 = .ok (.if_icmp .ne 7, 3) := by decide +kernel
theorem dX8_listens_28 : decode cX8_listens 28 = .ok (.iconst 1, 1) := by decide +kernel
theorem dX8_listens_29 : decode cX8_listens 29 = .ok (.goto 4, 3) := by decide +kernel
theorem dX8_listens_32 : decode cX8_listens 32 = .ok (.iconst 0, 1) := by decide +kernel
theorem dX8_listens_33 : decode cX8_listens 33 = .ok (.ireturn, 1) := by decide +kernel
theorem dX8_save_0 : decode cX8_save 0 = .ok (.iconst 0, 1) := by decide +kernel
theorem dX8_save_1 : decode cX8_save 1 = .ok (.istore_n 2, 1) := by decide +kernel
theorem dX8_save_2 : decode cX8_save 2 = .ok (.iload_n 2, 1) := by decide +kernel
theorem dX8_save_3 : decode cX8_save 3 = .ok (.bipush 6, 2) := by decide +kernel
theorem dX8_save_5 : decode cX8_save 5 = .ok (.if_icmp .ge 48, 3) := by decide +kernel
theorem dX8_save_8 : decode cX8_save 8 = .ok (.iload_n 2, 1) := by decide +kernel
theorem dX8_save_9 : decode cX8_save 9 = .ok (.iload_n 1, 1) := by decide +kernel
theorem dX8_save_10 : decode cX8_save 10 = .ok (.if_icmp .eq 37, 3) := by decide +kernel
theorem dX8_save_13 : decode cX8_save 13 = .ok (.aload_n 0, 1) := by decide +kernel
theorem dX8_save_14 : decode cX8_save 14 = .ok (.iload_n 2, 1) := by decide +kernel
theorem dX8_save_15 : decode cX8_save 15 = .ok (.invokevirtual 91, 3) := by decide +kernel
theorem dX8_save_18 : decode cX8_save 18 = .ok (.ifCond .eq 29, 3) := by decide +kernel
theorem dX8_save_21 : decode cX8_save 21 = .ok (.aload_n 0, 1) := by decide +kernel
theorem dX8_save_22 : decode cX8_save 22 = .ok (.getfield 29, 3) := by decide +kernel
theorem dX8_save_25 : decode cX8_save 25 = .ok (.iconst 4, 1) := by decide +kernel
theorem dX8_save_26 : decode cX8_save 26 = .ok (.iload_n 2, 1) := by decide +kernel
theorem dX8_save_27 : decode cX8_save 27 = .ok (.imul, 1) := by decide +kernel
theorem dX8_save_28 : decode cX8_save 28 = .ok (.iaload, 1) := by decide +kernel
theorem dX8_save_29 : decode cX8_save 29 = .ok (.sipush 999, 3) := by decide +kernel
theorem dX8_save_32 : decode cX8_save 32 = .ok (.if_icmp .ge 15, 3) := by decide +kernel
theorem dX8_save_35 : decode cX8_save 35 = .ok (.aload_n 0, 1) := by decide +kernel
theorem dX8_save_36 : decode cX8_save 36 = .ok (.getfield 29, 3) := by decide +kernel
theorem dX8_save_39 : decode cX8_save 39 = .ok (.iconst 4, 1) := by decide +kernel
theorem dX8_save_40 : decode cX8_save 40 = .ok (.iload_n 2, 1) := by decide +kernel
theorem dX8_save_41 : decode cX8_save 41 = .ok (.imul, 1) := by decide +kernel
theorem dX8_save_42 : decode cX8_save 42 = .ok (.dup2, 1) := by decide +kernel
theorem dX8_save_43 : decode cX8_save 43 = .ok (.iaload, 1) := by decide +kernel
theorem dX8_save_44 : decode cX8_save 44 = .ok (.iconst 1, 1) := by decide +kernel
theorem dX8_save_45 : decode cX8_save 45 = .ok (.iadd, 1) := by decide +kernel
theorem dX8_save_46 : decode cX8_save 46 = .ok (.iastore, 1) := by decide +kernel
theorem dX8_save_47 : decode cX8_save 47 = .ok (.iinc 2 1, 3) := by decide +kernel
theorem dX8_save_50 : decode cX8_save 50 = .ok (.goto (-48), 3) := by decide +kernel
theorem dX8_save_53 : decode cX8_save 53 = .ok (.return_, 1) := by decide +kernel
theorem dX8_speak_0 : decode cX8_speak 0 = .ok (.aload_n 0, 1) := by decide +kernel
theorem dX8_speak_1 : decode cX8_speak 1 = .ok (.getfield 29, 3) := by decide +kernel
theorem dX8_speak_4 : decode cX8_speak 4 = .ok (.iconst 4, 1) := by decide +kernel
theorem dX8_speak_5 : decode cX8_speak 5 = .ok (.iload_n 1, 1) := by decide +kernel
theorem dX8_speak_6 : decode cX8_speak 6 = .ok (.imul, 1) := by decide +kernel
theorem dX8_speak_7 : decode cX8_speak 7 = .ok (.iconst 3, 1) := by decide +kernel
theorem dX8_speak_8 : decode cX8_speak 8 = .ok (.iadd, 1) := by decide +kernel
theorem dX8_speak_9 : decode cX8_speak 9 = .ok (.iaload, 1) := by decide +kernel
theorem dX8_speak_10 : decode cX8_speak 10 = .ok (.istore_n 2, 1) := by decide +kernel
theorem dX8_speak_11 : decode cX8_speak 11 = .ok (.iload_n 2, 1) := by decide +kernel
theorem dX8_speak_12 : decode cX8_speak 12 = .ok (.ifCond .le 15, 3) := by decide +kernel
theorem dX8_speak_15 : decode cX8_speak 15 = .ok (.iload_n 2, 1) := by decide +kernel
theorem dX8_speak_16 : decode cX8_speak 16 = .ok (.iconst 1, 1) := by decide +kernel
theorem dX8_speak_17 : decode cX8_speak 17 = .ok (.isub, 1) := by decide +kernel
theorem dX8_speak_18 : decode cX8_speak 18 = .ok (.iconst 2, 1) := by decide +kernel
theorem dX8_speak_19 : decode cX8_speak 19 = .ok (.irem, 1) := by decide +kernel
theorem dX8_speak_20 : decode cX8_speak 20 = .ok (.ifCond .ne 7, 3) := by decide +kernel
theorem dX8_speak_23 : decode cX8_speak 23 = .ok (.iconst 1, 1) := by decide +kernel
theorem dX8_speak_24 : decode cX8_speak 24 = .ok (.goto 4, 3) := by decide +kernel
theorem dX8_speak_27 : decode cX8_speak 27 = .ok (.iconst 0, 1) := by decide +kernel
theorem dX8_speak_28 : decode cX8_speak 28 = .ok (.istore_n 3, 1) := by decide +kernel
theorem dX8_speak_29 : decode cX8_speak 29 = .ok (.aload_n 0, 1) := by decide +kernel
theorem dX8_speak_30 : decode cX8_speak 30 = .ok (.iload_n 1, 1) := by decide +kernel
theorem dX8_speak_31 : decode cX8_speak 31 = .ok (.invokevirtual 91, 3) := by decide +kernel
theorem dX8_speak_34 : decode cX8_speak 34 = .ok (.ifCond .eq 18, 3) := by decide +kernel
theorem dX8_speak_37 : decode cX8_speak 37 = .ok (.iload_n 3, 1) := by decide +kernel
theorem dX8_speak_38 : decode cX8_speak 38 = .ok (.ifCond .ne 49, 3) := by decide +kernel
theorem dX8_speak_41 : decode cX8_speak 41 = .ok (.aload_n 0, 1) := by decide +kernel
theorem dX8_speak_42 : decode cX8_speak 42 = .ok (.getfield 29, 3) := by decide +kernel
theorem dX8_speak_45 : decode cX8_speak 45 = .ok (.iconst 4, 1) := by decide +kernel
theorem dX8_speak_46 : decode cX8_speak 46 = .ok (.iload_n 1, 1) := by decide +kernel
theorem dX8_speak_47 : decode cX8_speak 47 = .ok (.imul, 1) := by decide +kernel
theorem dX8_speak_48 : decode cX8_speak 48 = .ok (.iaload, 1) := by decide +kernel
theorem dX8_speak_49 : decode cX8_speak 49 = .ok (.ifCond .ne 38, 3) := by decide +kernel
theorem dX8_speak_52 : decode cX8_speak 52 = .ok (.aload_n 0, 1) := by decide +kernel
theorem dX8_speak_53 : decode cX8_speak 53 = .ok (.aload_n 0, 1) := by decide +kernel
theorem dX8_speak_54 : decode cX8_speak 54 = .ok (.getfield 94, 3) := by decide +kernel
theorem dX8_speak_57 : decode cX8_speak 57 = .ok (.ifCond .ne 10, 3) := by decide +kernel
theorem dX8_speak_60 : decode cX8_speak 60 = .ok (.aload_n 0, 1) := by decide +kernel
theorem dX8_speak_61 : decode cX8_speak 61 = .ok (.getfield 97, 3) := by decide +kernel
theorem dX8_speak_64 : decode cX8_speak 64 = .ok (.goto 7, 3) := by decide +kernel
theorem dX8_speak_67 : decode cX8_speak 67 = .ok (.aload_n 0, 1) := by decide +kernel
theorem dX8_speak_68 : decode cX8_speak 68 = .ok (.getfield 100, 3) := by decide +kernel
theorem dX8_speak_71 : decode cX8_speak 71 = .ok (.putfield 100, 3) := by decide +kernel
theorem dX8_speak_74 : decode cX8_speak 74 = .ok (.aload_n 0, 1) := by decide +kernel
theorem dX8_speak_75 : decode cX8_speak 75 = .ok (.dup, 1) := by decide +kernel
theorem dX8_speak_76 : decode cX8_speak 76 = .ok (.getfield 94, 3) := by decide +kernel
theorem dX8_speak_79 : decode cX8_speak 79 = .ok (.iconst 1, 1) := by decide +kernel
theorem dX8_speak_80 : decode cX8_speak 80 = .ok (.iadd, 1) := by decide +kernel
theorem dX8_speak_81 : decode cX8_speak 81 = .ok (.putfield 94, 3) := by decide +kernel
theorem dX8_speak_84 : decode cX8_speak 84 = .ok (.goto 44, 3) := by decide +kernel
theorem dX8_speak_87 : decode cX8_speak 87 = .ok (.aload_n 0, 1) := by decide +kernel
theorem dX8_speak_88 : decode cX8_speak 88 = .ok (.getfield 29, 3) := by decide +kernel
theorem dX8_speak_91 : decode cX8_speak 91 = .ok (.iconst 4, 1) := by decide +kernel
theorem dX8_speak_92 : decode cX8_speak 92 = .ok (.iload_n 1, 1) := by decide +kernel
theorem dX8_speak_93 : decode cX8_speak 93 = .ok (.imul, 1) := by decide +kernel
theorem dX8_speak_94 : decode cX8_speak 94 = .ok (.iconst 3, 1) := by decide +kernel
theorem dX8_speak_95 : decode cX8_speak 95 = .ok (.iadd, 1) := by decide +kernel
theorem dX8_speak_96 : decode cX8_speak 96 = .ok (.iload_n 2, 1) := by decide +kernel
theorem dX8_speak_97 : decode cX8_speak 97 = .ok (.ifCond .le 9, 3) := by decide +kernel
theorem dX8_speak_100 : decode cX8_speak 100 = .ok (.iload_n 2, 1) := by decide +kernel
theorem dX8_speak_101 : decode cX8_speak 101 = .ok (.iconst 1, 1) := by decide +kernel
theorem dX8_speak_102 : decode cX8_speak 102 = .ok (.isub, 1) := by decide +kernel
theorem dX8_speak_103 : decode cX8_speak 103 = .ok (.goto 4, 3) := by decide +kernel
theorem dX8_speak_106 : decode cX8_speak 106 = .ok (.iconst 0, 1) := by decide +kernel
theorem dX8_speak_107 : decode cX8_speak 107 = .ok (.iastore, 1) := by decide +kernel
theorem dX8_speak_108 : decode cX8_speak 108 = .ok (.aload_n 0, 1) := by decide +kernel
theorem dX8_speak_109 : decode cX8_speak 109 = .ok (.getfield 29, 3) := by decide +kernel
theorem dX8_speak_112 : decode cX8_speak 112 = .ok (.iconst 4, 1) := by decide +kernel
theorem dX8_speak_113 : decode cX8_speak 113 = .ok (.iload_n 1, 1) := by decide +kernel
theorem dX8_speak_114 : decode cX8_speak 114 = .ok (.imul, 1) := by decide +kernel
theorem dX8_speak_115 : decode cX8_speak 115 = .ok (.dup2, 1) := by decide +kernel
theorem dX8_speak_116 : decode cX8_speak 116 = .ok (.iaload, 1) := by decide +kernel
theorem dX8_speak_117 : decode cX8_speak 117 = .ok (.iload_n 3, 1) := by decide +kernel
theorem dX8_speak_118 : decode cX8_speak 118 = .ok (.ifCond .eq 7, 3) := by decide +kernel
theorem dX8_speak_121 : decode cX8_speak 121 = .ok (.iconst 0, 1) := by decide +kernel
theorem dX8_speak_122 : decode cX8_speak 122 = .ok (.goto 4, 3) := by decide +kernel
theorem dX8_speak_125 : decode cX8_speak 125 = .ok (.iconst 1, 1) := by decide +kernel
theorem dX8_speak_126 : decode cX8_speak 126 = .ok (.isub, 1) := by decide +kernel
theorem dX8_speak_127 : decode cX8_speak 127 = .ok (.iastore, 1) := by decide +kernel
theorem dX8_speak_128 : decode cX8_speak 128 = .ok (.aload_n 0, 1) := by decide +kernel
theorem dX8_speak_129 : decode cX8_speak 129 = .ok (.getfield 32, 3) := by decide +kernel
theorem dX8_speak_132 : decode cX8_speak 132 = .ok (.iload_n 1, 1) := by decide +kernel
theorem dX8_speak_133 : decode cX8_speak 133 = .ok (.dup2, 1) := by decide +kernel
theorem dX8_speak_134 : decode cX8_speak 134 = .ok (.iaload, 1) := by decide +kernel
theorem dX8_speak_135 : decode cX8_speak 135 = .ok (.iconst 1, 1) := by decide +kernel
theorem dX8_speak_136 : decode cX8_speak 136 = .ok (.iadd, 1) := by decide +kernel
theorem dX8_speak_137 : decode cX8_speak 137 = .ok (.iastore, 1) := by decide +kernel
theorem dX8_speak_138 : decode cX8_speak 138 = .ok (.aload_n 0, 1) := by decide +kernel
theorem dX8_speak_139 : decode cX8_speak 139 = .ok (.iload_n 1, 1) := by decide +kernel
theorem dX8_speak_140 : decode cX8_speak 140 = .ok (.invokevirtual 103, 3) := by decide +kernel
theorem dX8_speak_143 : decode cX8_speak 143 = .ok (.return_, 1) := by decide +kernel
theorem dX8_act_0 : decode cX8_act 0 = .ok (.iconst 4, 1) := by decide +kernel
theorem dX8_act_1 : decode cX8_act 1 = .ok (.iload_n 2, 1) := by decide +kernel
theorem dX8_act_2 : decode cX8_act 2 = .ok (.imul, 1) := by decide +kernel
theorem dX8_act_3 : decode cX8_act 3 = .ok (.istore_n 3, 1) := by decide +kernel
theorem dX8_act_4 : decode cX8_act 4 = .ok (.iload_n 1, 1) := by decide +kernel
theorem dX8_act_5 : decode cX8_act 5 = .ok (.lookupswitch 116 #[(105, 95), (120, 67), (121, 55), (122, 43)], 43) := by decide +kernel
theorem dX8_act_48 : decode cX8_act 48 = .ok (.aload_n 0, 1) := by decide +kernel
theorem dX8_act_49 : decode cX8_act 49 = .ok (.getfield 29, 3) := by decide +kernel
theorem dX8_act_52 : decode cX8_act 52 = .ok (.iload_n 3, 1) := by decide +kernel
theorem dX8_act_53 : decode cX8_act 53 = .ok (.iconst 2, 1) := by decide +kernel
theorem dX8_act_54 : decode cX8_act 54 = .ok (.iadd, 1) := by decide +kernel
theorem dX8_act_55 : decode cX8_act 55 = .ok (.iconst 0, 1) := by decide +kernel
theorem dX8_act_56 : decode cX8_act 56 = .ok (.iastore, 1) := by decide +kernel
theorem dX8_act_57 : decode cX8_act 57 = .ok (.goto 110, 3) := by decide +kernel
theorem dX8_act_60 : decode cX8_act 60 = .ok (.aload_n 0, 1) := by decide +kernel
theorem dX8_act_61 : decode cX8_act 61 = .ok (.getfield 29, 3) := by decide +kernel
theorem dX8_act_64 : decode cX8_act 64 = .ok (.iload_n 3, 1) := by decide +kernel
theorem dX8_act_65 : decode cX8_act 65 = .ok (.iconst 2, 1) := by decide +kernel
theorem dX8_act_66 : decode cX8_act 66 = .ok (.iadd, 1) := by decide +kernel
theorem dX8_act_67 : decode cX8_act 67 = .ok (.iconst 1, 1) := by decide +kernel
theorem dX8_act_68 : decode cX8_act 68 = .ok (.iastore, 1) := by decide +kernel
theorem dX8_act_69 : decode cX8_act 69 = .ok (.goto 98, 3) := by decide +kernel
theorem dX8_act_72 : decode cX8_act 72 = .ok (.aload_n 0, 1) := by decide +kernel
theorem dX8_act_73 : decode cX8_act 73 = .ok (.getfield 29, 3) := by decide +kernel
theorem dX8_act_76 : decode cX8_act 76 = .ok (.iload_n 3, 1) := by decide +kernel
theorem dX8_act_77 : decode cX8_act 77 = .ok (.iconst 0, 1) := by decide +kernel
theorem dX8_act_78 : decode cX8_act 78 = .ok (.iastore, 1) := by decide +kernel
theorem dX8_act_79 : decode cX8_act 79 = .ok (.aload_n 0, 1) := by decide +kernel
theorem dX8_act_80 : decode cX8_act 80 = .ok (.getfield 29, 3) := by decide +kernel
theorem dX8_act_83 : decode cX8_act 83 = .ok (.iload_n 3, 1) := by decide +kernel
theorem dX8_act_84 : decode cX8_act 84 = .ok (.iconst 1, 1) := by decide +kernel
theorem dX8_act_85 : decode cX8_act 85 = .ok (.iadd, 1) := by decide +kernel
theorem dX8_act_86 : decode cX8_act 86 = .ok (.iconst 0, 1) := by decide +kernel
theorem dX8_act_87 : decode cX8_act 87 = .ok (.iastore, 1) := by decide +kernel
theorem dX8_act_88 : decode cX8_act 88 = .ok (.aload_n 0, 1) := by decide +kernel
theorem dX8_act_89 : decode cX8_act 89 = .ok (.getfield 29, 3) := by decide +kernel
theorem dX8_act_92 : decode cX8_act 92 = .ok (.iload_n 3, 1) := by decide +kernel
theorem dX8_act_93 : decode cX8_act 93 = .ok (.iconst 3, 1) := by decide +kernel
theorem dX8_act_94 : decode cX8_act 94 = .ok (.iadd, 1) := by decide +kernel
theorem dX8_act_95 : decode cX8_act 95 = .ok (.iconst 0, 1) := by decide +kernel
theorem dX8_act_96 : decode cX8_act 96 = .ok (.iastore, 1) := by decide +kernel
theorem dX8_act_97 : decode cX8_act 97 = .ok (.goto 70, 3) := by decide +kernel
theorem dX8_act_100 : decode cX8_act 100 = .ok (.aload_n 0, 1) := by decide +kernel
theorem dX8_act_101 : decode cX8_act 101 = .ok (.getfield 29, 3) := by decide +kernel
theorem dX8_act_104 : decode cX8_act 104 = .ok (.iload_n 3, 1) := by decide +kernel
theorem dX8_act_105 : decode cX8_act 105 = .ok (.iconst 1, 1) := by decide +kernel
theorem dX8_act_106 : decode cX8_act 106 = .ok (.iadd, 1) := by decide +kernel
theorem dX8_act_107 : decode cX8_act 107 = .ok (.iconst 1, 1) := by decide +kernel
theorem dX8_act_108 : decode cX8_act 108 = .ok (.iastore, 1) := by decide +kernel
theorem dX8_act_109 : decode cX8_act 109 = .ok (.aload_n 0, 1) := by decide +kernel
theorem dX8_act_110 : decode cX8_act 110 = .ok (.getfield 29, 3) := by decide +kernel
theorem dX8_act_113 : decode cX8_act 113 = .ok (.iload_n 3, 1) := by decide +kernel
theorem dX8_act_114 : decode cX8_act 114 = .ok (.iconst 2, 1) := by decide +kernel
theorem dX8_act_115 : decode cX8_act 115 = .ok (.iadd, 1) := by decide +kernel
theorem dX8_act_116 : decode cX8_act 116 = .ok (.iconst 1, 1) := by decide +kernel
theorem dX8_act_117 : decode cX8_act 117 = .ok (.iastore, 1) := by decide +kernel
theorem dX8_act_118 : decode cX8_act 118 = .ok (.goto 49, 3) := by decide +kernel
theorem dX8_act_121 : decode cX8_act 121 = .ok (.aload_n 0, 1) := by decide +kernel
theorem dX8_act_122 : decode cX8_act 122 = .ok (.getfield 29, 3) := by decide +kernel
theorem dX8_act_125 : decode cX8_act 125 = .ok (.iload_n 3, 1) := by decide +kernel
theorem dX8_act_126 : decode cX8_act 126 = .ok (.iconst 1, 1) := by decide +kernel
theorem dX8_act_127 : decode cX8_act 127 = .ok (.iadd, 1) := by decide +kernel
theorem dX8_act_128 : decode cX8_act 128 = .ok (.iaload, 1) := by decide +kernel
theorem dX8_act_129 : decode cX8_act 129 = .ok (.iconst 1, 1) := by decide +kernel
theorem dX8_act_130 : decode cX8_act 130 = .ok (.if_icmp .ne 37, 3) := by decide +kernel
theorem dX8_act_133 : decode cX8_act 133 = .ok (.aload_n 0, 1) := by decide +kernel
theorem dX8_act_134 : decode cX8_act 134 = .ok (.getfield 29, 3) := by decide +kernel
theorem dX8_act_137 : decode cX8_act 137 = .ok (.iload_n 3, 1) := by decide +kernel
theorem dX8_act_138 : decode cX8_act 138 = .ok (.aload_n 0, 1) := by decide +kernel
theorem dX8_act_139 : decode cX8_act 139 = .ok (.getfield 29, 3) := by decide +kernel
theorem dX8_act_142 : decode cX8_act 142 = .ok (.iload_n 3, 1) := by decide +kernel
theorem dX8_act_143 : decode cX8_act 143 = .ok (.iaload, 1) := by decide +kernel
theorem dX8_act_144 : decode cX8_act 144 = .ok (.aload_n 0, 1) := by decide +kernel
theorem dX8_act_145 : decode cX8_act 145 = .ok (.getfield 13, 3) := by decide +kernel
theorem dX8_act_148 : decode cX8_act 148 = .ok (.if_icmp .ge 7, 3) := by decide +kernel
theorem dX8_act_151 : decode cX8_act 151 = .ok (.iconst 0, 1) := by decide +kernel
theorem dX8_act_152 : decode cX8_act 152 = .ok (.goto 14, 3) := by decide +kernel
theorem dX8_act_155 : decode cX8_act 155 = .ok (.aload_n 0, 1) := by decide +kernel
theorem dX8_act_156 : decode cX8_act 156 = .ok (.getfield 29, 3) := by decide +kernel
theorem dX8_act_159 : decode cX8_act 159 = .ok (.iload_n 3, 1) := by decide +kernel
theorem dX8_act_160 : decode cX8_act 160 = .ok (.iaload, 1) := by decide +kernel
theorem dX8_act_161 : decode cX8_act 161 = .ok (.aload_n 0, 1) := by decide +kernel
theorem dX8_act_162 : decode cX8_act 162 = .ok (.getfield 13, 3) := by decide +kernel
theorem dX8_act_165 : decode cX8_act 165 = .ok (.isub, 1) := by decide +kernel
theorem dX8_act_166 : decode cX8_act 166 = .ok (.iastore, 1) := by decide +kernel
theorem dX8_act_167 : decode cX8_act 167 = .ok (.return_, 1) := by decide +kernel
theorem dX8_sitThrough_0 : decode cX8_sitThrough 0 = .ok (.iconst 0, 1) := by decide +kernel
theorem dX8_sitThrough_1 : decode cX8_sitThrough 1 = .ok (.istore_n 1, 1) := by decide +kernel
theorem dX8_sitThrough_2 : decode cX8_sitThrough 2 = .ok (.iload_n 1, 1) := by decide +kernel
theorem dX8_sitThrough_3 : decode cX8_sitThrough 3 = .ok (.bipush 24, 2) := by decide +kernel
theorem dX8_sitThrough_5 : decode cX8_sitThrough 5 = .ok (.if_icmp .ge 21, 3) := by decide +kernel
theorem dX8_sitThrough_8 : decode cX8_sitThrough 8 = .ok (.aload_n 0, 1) := by decide +kernel
theorem dX8_sitThrough_9 : decode cX8_sitThrough 9 = .ok (.getfield 29, 3) := by decide +kernel
theorem dX8_sitThrough_12 : decode cX8_sitThrough 12 = .ok (.iload_n 1, 1) := by decide +kernel
theorem dX8_sitThrough_13 : decode cX8_sitThrough 13 = .ok (.aload_n 0, 1) := by decide +kernel
theorem dX8_sitThrough_14 : decode cX8_sitThrough 14 = .ok (.getfield 7, 3) := by decide +kernel
theorem dX8_sitThrough_17 : decode cX8_sitThrough 17 = .ok (.iload_n 1, 1) := by decide +kernel
theorem dX8_sitThrough_18 : decode cX8_sitThrough 18 = .ok (.iaload, 1) := by decide +kernel
theorem dX8_sitThrough_19 : decode cX8_sitThrough 19 = .ok (.iastore, 1) := by decide +kernel
theorem dX8_sitThrough_20 : decode cX8_sitThrough 20 = .ok (.iinc 1 1, 3) := by decide +kernel
theorem dX8_sitThrough_23 : decode cX8_sitThrough 23 = .ok (.goto (-21), 3) := by decide +kernel
theorem dX8_sitThrough_26 : decode cX8_sitThrough 26 = .ok (.iconst 0, 1) := by decide +kernel
theorem dX8_sitThrough_27 : decode cX8_sitThrough 27 = .ok (.istore_n 1, 1) := by decide +kernel
theorem dX8_sitThrough_28 : decode cX8_sitThrough 28 = .ok (.iload_n 1, 1) := by decide +kernel
theorem dX8_sitThrough_29 : decode cX8_sitThrough 29 = .ok (.bipush 6, 2) := by decide +kernel
theorem dX8_sitThrough_31 : decode cX8_sitThrough 31 = .ok (.if_icmp .ge 16, 3) := by decide +kernel
theorem dX8_sitThrough_34 : decode cX8_sitThrough 34 = .ok (.aload_n 0, 1) := by decide +kernel
theorem dX8_sitThrough_35 : decode cX8_sitThrough 35 = .ok (.getfield 32, 3) := by decide +kernel
theorem dX8_sitThrough_38 : decode cX8_sitThrough 38 = .ok (.iload_n 1, 1) := by decide +kernel
theorem dX8_sitThrough_39 : decode cX8_sitThrough 39 = .ok (.iconst 0, 1) := by decide +kernel
theorem dX8_sitThrough_40 : decode cX8_sitThrough 40 = .ok (.iastore, 1) := by decide +kernel
theorem dX8_sitThrough_41 : decode cX8_sitThrough 41 = .ok (.iinc 1 1, 3) := by decide +kernel
theorem dX8_sitThrough_44 : decode cX8_sitThrough 44 = .ok (.goto (-16), 3) := by decide +kernel
theorem dX8_sitThrough_47 : decode cX8_sitThrough 47 = .ok (.aload_n 0, 1) := by decide +kernel
theorem dX8_sitThrough_48 : decode cX8_sitThrough 48 = .ok (.iconst 0, 1) := by decide +kernel
theorem dX8_sitThrough_49 : decode cX8_sitThrough 49 = .ok (.putfield 97, 3) := by decide +kernel
theorem dX8_sitThrough_52 : decode cX8_sitThrough 52 = .ok (.aload_n 0, 1) := by decide +kernel
theorem dX8_sitThrough_53 : decode cX8_sitThrough 53 = .ok (.iconst 0, 1) := by decide +kernel
theorem dX8_sitThrough_54 : decode cX8_sitThrough 54 = .ok (.putfield 94, 3) := by decide +kernel
theorem dX8_sitThrough_57 : decode cX8_sitThrough 57 = .ok (.aload_n 0, 1) := by decide +kernel
theorem dX8_sitThrough_58 : decode cX8_sitThrough 58 = .ok (.bipush (-6), 2) := by decide +kernel
theorem dX8_sitThrough_60 : decode cX8_sitThrough 60 = .ok (.putfield 100, 3) := by decide +kernel
theorem dX8_sitThrough_63 : decode cX8_sitThrough 63 = .ok (.iconst 0, 1) := by decide +kernel
theorem dX8_sitThrough_64 : decode cX8_sitThrough 64 = .ok (.istore_n 1, 1) := by decide +kernel
theorem dX8_sitThrough_65 : decode cX8_sitThrough 65 = .ok (.iload_n 1, 1) := by decide +kernel
theorem dX8_sitThrough_66 : decode cX8_sitThrough 66 = .ok (.aload_n 0, 1) := by decide +kernel
theorem dX8_sitThrough_67 : decode cX8_sitThrough 67 = .ok (.getfield 75, 3) := by decide +kernel
theorem dX8_sitThrough_70 : decode cX8_sitThrough 70 = .ok (.if_icmp .ge 159, 3) := by decide +kernel
theorem dX8_sitThrough_73 : decode cX8_sitThrough 73 = .ok (.aload_n 0, 1) := by decide +kernel
theorem dX8_sitThrough_74 : decode cX8_sitThrough 74 = .ok (.getfield 20, 3) := by decide +kernel
theorem dX8_sitThrough_77 : decode cX8_sitThrough 77 = .ok (.iload_n 1, 1) := by decide +kernel
theorem dX8_sitThrough_78 : decode cX8_sitThrough 78 = .ok (.iaload, 1) := by decide +kernel
theorem dX8_sitThrough_79 : decode cX8_sitThrough 79 = .ok (.istore_n 2, 1) := by decide +kernel
theorem dX8_sitThrough_80 : decode cX8_sitThrough 80 = .ok (.aload_n 0, 1) := by decide +kernel
theorem dX8_sitThrough_81 : decode cX8_sitThrough 81 = .ok (.getfield 20, 3) := by decide +kernel
theorem dX8_sitThrough_84 : decode cX8_sitThrough 84 = .ok (.iload_n 1, 1) := by decide +kernel
theorem dX8_sitThrough_85 : decode cX8_sitThrough 85 = .ok (.iconst 1, 1) := by decide +kernel
theorem dX8_sitThrough_86 : decode cX8_sitThrough 86 = .ok (.iadd, 1) := by decide +kernel
theorem dX8_sitThrough_87 : decode cX8_sitThrough 87 = .ok (.iaload, 1) := by decide +kernel
theorem dX8_sitThrough_88 : decode cX8_sitThrough 88 = .ok (.bipush 97, 2) := by decide +kernel
theorem dX8_sitThrough_90 : decode cX8_sitThrough 90 = .ok (.isub, 1) := by decide +kernel
theorem dX8_sitThrough_91 : decode cX8_sitThrough 91 = .ok (.istore_n 3, 1) := by decide +kernel
theorem dX8_sitThrough_92 : decode cX8_sitThrough 92 = .ok (.iload_n 2, 1) := by decide +kernel
theorem dX8_sitThrough_93 : decode cX8_sitThrough 93 = .ok (.bipush 63, 2) := by decide +kernel
theorem dX8_sitThrough_95 : decode cX8_sitThrough 95 = .ok (.if_icmp .ne 54, 3) := by decide +kernel
theorem dX8_sitThrough_98 : decode cX8_sitThrough 98 = .ok (.aload_n 0, 1) := by decide +kernel
theorem dX8_sitThrough_99 : decode cX8_sitThrough 99 = .ok (.getfield 20, 3) := by decide +kernel
theorem dX8_sitThrough_102 : decode cX8_sitThrough 102 = .ok (.iload_n 1, 1) := by decide +kernel
theorem dX8_sitThrough_103 : decode cX8_sitThrough 103 = .ok (.iconst 2, 1) := by decide +kernel
theorem dX8_sitThrough_104 : decode cX8_sitThrough 104 = .ok (.iadd, 1) := by decide +kernel
theorem dX8_sitThrough_105 : decode cX8_sitThrough 105 = .ok (.iaload, 1) := by decide +kernel
theorem dX8_sitThrough_106 : decode cX8_sitThrough 106 = .ok (.bipush 97, 2) := by decide +kernel
theorem dX8_sitThrough_108 : decode cX8_sitThrough 108 = .ok (.isub, 1) := by decide +kernel
theorem dX8_sitThrough_109 : decode cX8_sitThrough 109 = .ok (.istore 4, 2) := by decide +kernel
theorem dX8_sitThrough_111 : decode cX8_sitThrough 111 = .ok (.aload_n 0, 1) := by decide +kernel
theorem dX8_sitThrough_112 : decode cX8_sitThrough 112 = .ok (.iload_n 3, 1) := by decide +kernel
theorem dX8_sitThrough_113 : decode cX8_sitThrough 113 = .ok (.invokevirtual 91, 3) := by decide +kernel
theorem dX8_sitThrough_116 : decode cX8_sitThrough 116 = .ok (.ifCond .eq 27, 3) := by decide +kernel
theorem dX8_sitThrough_119 : decode cX8_sitThrough 119 = .ok (.aload_n 0, 1) := by decide +kernel
theorem dX8_sitThrough_120 : decode cX8_sitThrough 120 = .ok (.iload 4, 2) := by decide +kernel
theorem dX8_sitThrough_122 : decode cX8_sitThrough 122 = .ok (.invokevirtual 91, 3) := by decide +kernel
theorem dX8_sitThrough_125 : decode cX8_sitThrough 125 = .ok (.ifCond .eq 18, 3) := by decide +kernel
theorem dX8_sitThrough_128 : decode cX8_sitThrough 128 = .ok (.aload_n 0, 1) := by decide +kernel
theorem dX8_sitThrough_129 : decode cX8_sitThrough 129 = .ok (.getfield 29, 3) := by decide +kernel
theorem dX8_sitThrough_132 : decode cX8_sitThrough 132 = .ok (.iconst 4, 1) := by decide +kernel
theorem dX8_sitThrough_133 : decode cX8_sitThrough 133 = .ok (.iload 4, 2) := by decide +kernel
theorem dX8_sitThrough_135 : decode cX8_sitThrough 135 = .ok (.imul, 1) := by decide +kernel
theorem dX8_sitThrough_136 : decode cX8_sitThrough 136 = .ok (.iconst 3, 1) := by decide +kernel
theorem dX8_sitThrough_137 : decode cX8_sitThrough 137 = .ok (.iadd, 1) := by decide +kernel
theorem dX8_sitThrough_138 : decode cX8_sitThrough 138 = .ok (.aload_n 0, 1) := by decide +kernel
theorem dX8_sitThrough_139 : decode cX8_sitThrough 139 = .ok (.getfield 17, 3) := by decide +kernel
theorem dX8_sitThrough_142 : decode cX8_sitThrough 142 = .ok (.iastore, 1) := by decide +kernel
theorem dX8_sitThrough_143 : decode cX8_sitThrough 143 = .ok (.iinc 1 1, 3) := by decide +kernel
theorem dX8_sitThrough_146 : decode cX8_sitThrough 146 = .ok (.goto 77, 3) := by decide +kernel
theorem dX8_sitThrough_149 : decode cX8_sitThrough 149 = .ok (.iload_n 2, 1) := by decide +kernel
theorem dX8_sitThrough_150 : decode cX8_sitThrough 150 = .ok (.invokestatic 81, 3) := by decide +kernel
theorem dX8_sitThrough_153 : decode cX8_sitThrough 153 = .ok (.ifCond .eq 12, 3) := by decide +kernel
theorem dX8_sitThrough_156 : decode cX8_sitThrough 156 = .ok (.aload_n 0, 1) := by decide +kernel
theorem dX8_sitThrough_157 : decode cX8_sitThrough 157 = .ok (.iload_n 2, 1) := by decide +kernel
theorem dX8_sitThrough_158 : decode cX8_sitThrough 158 = .ok (.iload_n 3, 1) := by decide +kernel
theorem dX8_sitThrough_159 : decode cX8_sitThrough 159 = .ok (.invokevirtual 107, 3) := by decide +kernel
theorem dX8_sitThrough_162 : decode cX8_sitThrough 162 = .ok (.goto 61, 3) := by decide +kernel
theorem dX8_sitThrough_165 : decode cX8_sitThrough 165 = .ok (.iconst 0, 1) := by decide +kernel
theorem dX8_sitThrough_166 : decode cX8_sitThrough 166 = .ok (.istore 4, 2) := by decide +kernel
theorem dX8_sitThrough_168 : decode cX8_sitThrough 168 = .ok (.iload 4, 2) := by decide +kernel
theorem dX8_sitThrough_170 : decode cX8_sitThrough 170 = .ok (.aload_n 0, 1) := by decide +kernel
theorem dX8_sitThrough_171 : decode cX8_sitThrough 171 = .ok (.getfield 20, 3) := by decide +kernel
theorem dX8_sitThrough_174 : decode cX8_sitThrough 174 = .ok (.iload_n 1, 1) := by decide +kernel
theorem dX8_sitThrough_175 : decode cX8_sitThrough 175 = .ok (.iconst 1, 1) := by decide +kernel
theorem dX8_sitThrough_176 : decode cX8_sitThrough 176 = .ok (.iadd, 1) := by decide +kernel
theorem dX8_sitThrough_177 : decode cX8_sitThrough 177 = .ok (.iaload, 1) := by decide +kernel
theorem dX8_sitThrough_178 : decode cX8_sitThrough 178 = .ok (.bipush 48, 2) := by decide +kernel
theorem dX8_sitThrough_180 : decode cX8_sitThrough 180 = .ok (.isub, 1) := by decide +kernel
theorem dX8_sitThrough_181 : decode cX8_sitThrough 181 = .ok (.if_icmp .ge 42, 3) := by decide +kernel
theorem dX8_sitThrough_184 : decode cX8_sitThrough 184 = .ok (.iload_n 2, 1) := by decide +kernel
theorem dX8_sitThrough_185 : decode cX8_sitThrough 185 = .ok (.bipush 46, 2) := by decide +kernel
theorem dX8_sitThrough_187 : decode cX8_sitThrough 187 = .ok (.if_icmp .ne 12, 3) := by decide +kernel
theorem dX8_sitThrough_190 : decode cX8_sitThrough 190 = .ok (.aload_n 0, 1) := by decide +kernel
theorem dX8_sitThrough_191 : decode cX8_sitThrough 191 = .ok (.bipush (-6), 2) := by decide +kernel
theorem dX8_sitThrough_193 : decode cX8_sitThrough 193 = .ok (.invokevirtual 103, 3) := by decide +kernel
theorem dX8_sitThrough_196 : decode cX8_sitThrough 196 = .ok (.goto 11, 3) := by decide +kernel
theorem dX8_sitThrough_199 : decode cX8_sitThrough 199 = .ok (.aload_n 0, 1) := by decide +kernel
theorem dX8_sitThrough_200 : decode cX8_sitThrough 200 = .ok (.iload_n 2, 1) := by decide +kernel
theorem dX8_sitThrough_201 : decode cX8_sitThrough 201 = .ok (.bipush 97, 2) := by decide +kernel
theorem dX8_sitThrough_203 : decode cX8_sitThrough 203 = .ok (.isub, 1) := by decide +kernel
theorem dX8_sitThrough_204 : decode cX8_sitThrough 204 = .ok (.invokevirtual 111, 3) := by decide +kernel
theorem dX8_sitThrough_207 : decode cX8_sitThrough 207 = .ok (.aload_n 0, 1) := by decide +kernel
theorem dX8_sitThrough_208 : decode cX8_sitThrough 208 = .ok (.dup, 1) := by decide +kernel
theorem dX8_sitThrough_209 : decode cX8_sitThrough 209 = .ok (.getfield 97, 3) := by decide +kernel
theorem dX8_sitThrough_212 : decode cX8_sitThrough 212 = .ok (.iconst 1, 1) := by decide +kernel
theorem dX8_sitThrough_213 : decode cX8_sitThrough 213 = .ok (.iadd, 1) := by decide +kernel
theorem dX8_sitThrough_214 : decode cX8_sitThrough 214 = .ok (.putfield 97, 3) := by decide +kernel
theorem dX8_sitThrough_217 : decode cX8_sitThrough 217 = .ok (.iinc 4 1, 3) := by decide +kernel
theorem dX8_sitThrough_220 : decode cX8_sitThrough 220 = .ok (.goto (-52), 3) := by decide +kernel
theorem dX8_sitThrough_223 : decode cX8_sitThrough 223 = .ok (.iinc 1 2, 3) := by decide +kernel
theorem dX8_sitThrough_226 : decode cX8_sitThrough 226 = .ok (.goto (-161), 3) := by decide +kernel
theorem dX8_sitThrough_229 : decode cX8_sitThrough 229 = .ok (.return_, 1) := by decide +kernel
theorem dX8_sits_0 : decode cX8_sits 0 = .ok (.iload_n 1, 1) := by decide +kernel
theorem dX8_sits_1 : decode cX8_sits 1 = .ok (.iconst 0, 1) := by decide +kernel
theorem dX8_sits_2 : decode cX8_sits 2 = .ok (.iconst 2, 1) := by decide +kernel
theorem dX8_sits_3 : decode cX8_sits 3 = .ok (.invokestatic 63, 3) := by decide +kernel
theorem dX8_sits_6 : decode cX8_sits 6 = .ok (.ifCond .ne 36, 3) := by decide +kernel
theorem dX8_sits_9 : decode cX8_sits 9 = .ok (.iload_n 1, 1) := by decide +kernel
theorem dX8_sits_10 : decode cX8_sits 10 = .ok (.bipush 10, 2) := by decide +kernel
theorem dX8_sits_12 : decode cX8_sits 12 = .ok (.bipush 15, 2) := by decide +kernel
theorem dX8_sits_14 : decode cX8_sits 14 = .ok (.invokestatic 63, 3) := by decide +kernel
theorem dX8_sits_17 : decode cX8_sits 17 = .ok (.ifCond .ne 25, 3) := by decide +kernel
theorem dX8_sits_20 : decode cX8_sits 20 = .ok (.iload_n 1, 1) := by decide +kernel
theorem dX8_sits_21 : decode cX8_sits 21 = .ok (.bipush 20, 2) := by decide +kernel
theorem dX8_sits_23 : decode cX8_sits 23 = .ok (.bipush 25, 2) := by decide +kernel
theorem dX8_sits_25 : decode cX8_sits 25 = .ok (.invokestatic 63, 3) := by decide +kernel
theorem dX8_sits_28 : decode cX8_sits 28 = .ok (.ifCond .ne 14, 3) := by decide +kernel
theorem dX8_sits_31 : decode cX8_sits 31 = .ok (.iload_n 1, 1) := by decide +kernel
theorem dX8_sits_32 : decode cX8_sits 32 = .ok (.bipush 30, 2) := by decide +kernel
theorem dX8_sits_34 : decode cX8_sits 34 = .ok (.bipush 35, 2) := by decide +kernel
theorem dX8_sits_36 : decode cX8_sits 36 = .ok (.invokestatic 63, 3) := by decide +kernel
theorem dX8_sits_39 : decode cX8_sits 39 = .ok (.ifCond .eq 7, 3) := by decide +kernel
theorem dX8_sits_42 : decode cX8_sits 42 = .ok (.iconst 1, 1) := by decide +kernel
theorem dX8_sits_43 : decode cX8_sits 43 = .ok (.goto 4, 3) := by decide +kernel
theorem dX8_sits_46 : decode cX8_sits 46 = .ok (.iconst 0, 1) := by decide +kernel
theorem dX8_sits_47 : decode cX8_sits 47 = .ok (.istore_n 2, 1) := by decide +kernel
theorem dX8_sits_48 : decode cX8_sits 48 = .ok (.iload_n 2, 1) := by decide +kernel
theorem dX8_sits_49 : decode cX8_sits 49 = .ok (.ifCond .ne 6, 3) := by decide +kernel
theorem dX8_sits_52 : decode cX8_sits 52 = .ok (.bipush (-2), 2) := by decide +kernel
theorem dX8_sits_54 : decode cX8_sits 54 = .ok (.ireturn, 1) := by decide +kernel
theorem dX8_sits_55 : decode cX8_sits 55 = .ok (.aload_n 0, 1) := by decide +kernel
theorem dX8_sits_56 : decode cX8_sits 56 = .ok (.invokevirtual 84, 3) := by decide +kernel
theorem dX8_sits_59 : decode cX8_sits 59 = .ok (.ifCond .lt 6, 3) := by decide +kernel
theorem dX8_sits_62 : decode cX8_sits 62 = .ok (.bipush (-5), 2) := by decide +kernel
theorem dX8_sits_64 : decode cX8_sits 64 = .ok (.ireturn, 1) := by decide +kernel
theorem dX8_sits_65 : decode cX8_sits 65 = .ok (.aload_n 0, 1) := by decide +kernel
theorem dX8_sits_66 : decode cX8_sits 66 = .ok (.invokevirtual 114, 3) := by decide +kernel
theorem dX8_sits_69 : decode cX8_sits 69 = .ok (.iload_n 1, 1) := by decide +kernel
theorem dX8_sits_70 : decode cX8_sits 70 = .ok (.iconst 3, 1) := by decide +kernel
theorem dX8_sits_71 : decode cX8_sits 71 = .ok (.if_icmp .ge 31, 3) := by decide +kernel
theorem dX8_sits_74 : decode cX8_sits 74 = .ok (.iload_n 1, 1) := by decide +kernel
theorem dX8_sits_75 : decode cX8_sits 75 = .ok (.ifCond .ne 10, 3) := by decide +kernel
theorem dX8_sits_78 : decode cX8_sits 78 = .ok (.aload_n 0, 1) := by decide +kernel
theorem dX8_sits_79 : decode cX8_sits 79 = .ok (.getfield 97, 3) := by decide +kernel
theorem dX8_sits_82 : decode cX8_sits 82 = .ok (.goto 19, 3) := by decide +kernel
theorem dX8_sits_85 : decode cX8_sits 85 = .ok (.iload_n 1, 1) := by decide +kernel
theorem dX8_sits_86 : decode cX8_sits 86 = .ok (.iconst 1, 1) := by decide +kernel
theorem dX8_sits_87 : decode cX8_sits 87 = .ok (.if_icmp .ne 10, 3) := by decide +kernel
theorem dX8_sits_90 : decode cX8_sits 90 = .ok (.aload_n 0, 1) := by decide +kernel
theorem dX8_sits_91 : decode cX8_sits 91 = .ok (.getfield 100, 3) := by decide +kernel
theorem dX8_sits_94 : decode cX8_sits 94 = .ok (.goto 7, 3) := by decide +kernel
theorem dX8_sits_97 : decode cX8_sits 97 = .ok (.aload_n 0, 1) := by decide +kernel
theorem dX8_sits_98 : decode cX8_sits 98 = .ok (.getfield 94, 3) := by decide +kernel
theorem dX8_sits_101 : decode cX8_sits 101 = .ok (.ireturn, 1) := by decide +kernel
theorem dX8_sits_102 : decode cX8_sits 102 = .ok (.iload_n 1, 1) := by decide +kernel
theorem dX8_sits_103 : decode cX8_sits 103 = .ok (.bipush 10, 2) := by decide +kernel
theorem dX8_sits_105 : decode cX8_sits 105 = .ok (.irem, 1) := by decide +kernel
theorem dX8_sits_106 : decode cX8_sits 106 = .ok (.istore_n 3, 1) := by decide +kernel
theorem dX8_sits_107 : decode cX8_sits 107 = .ok (.iload_n 1, 1) := by decide +kernel
theorem dX8_sits_108 : decode cX8_sits 108 = .ok (.bipush 20, 2) := by decide +kernel
theorem dX8_sits_110 : decode cX8_sits 110 = .ok (.if_icmp .ge 12, 3) := by decide +kernel
theorem dX8_sits_113 : decode cX8_sits 113 = .ok (.aload_n 0, 1) := by decide +kernel
theorem dX8_sits_114 : decode cX8_sits 114 = .ok (.getfield 32, 3) := by decide +kernel
theorem dX8_sits_117 : decode cX8_sits 117 = .ok (.iload_n 3, 1) := by decide +kernel
theorem dX8_sits_118 : decode cX8_sits 118 = .ok (.iaload, 1) := by decide +kernel
theorem dX8_sits_119 : decode cX8_sits 119 = .ok (.goto 30, 3) := by decide +kernel
theorem dX8_sits_122 : decode cX8_sits 122 = .ok (.iload_n 1, 1) := by decide +kernel
theorem dX8_sits_123 : decode cX8_sits 123 = .ok (.bipush 30, 2) := by decide +kernel
theorem dX8_sits_125 : decode cX8_sits 125 = .ok (.if_icmp .ge 14, 3) := by decide +kernel
theorem dX8_sits_128 : decode cX8_sits 128 = .ok (.aload_n 0, 1) := by decide +kernel
theorem dX8_sits_129 : decode cX8_sits 129 = .ok (.getfield 29, 3) := by decide +kernel
theorem dX8_sits_132 : decode cX8_sits 132 = .ok (.iconst 4, 1) := by decide +kernel
theorem dX8_sits_133 : decode cX8_sits 133 = .ok (.iload_n 3, 1) := by decide +kernel
theorem dX8_sits_134 : decode cX8_sits 134 = .ok (.imul, 1) := by decide +kernel
theorem dX8_sits_135 : decode cX8_sits 135 = .ok (.iaload, 1) := by decide +kernel
theorem dX8_sits_136 : decode cX8_sits 136 = .ok (.goto 13, 3) := by decide +kernel
theorem dX8_sits_139 : decode cX8_sits 139 = .ok (.aload_n 0, 1) := by decide +kernel
theorem dX8_sits_140 : decode cX8_sits 140 = .ok (.getfield 29, 3) := by decide +kernel
theorem dX8_sits_143 : decode cX8_sits 143 = .ok (.iconst 4, 1) := by decide +kernel
theorem dX8_sits_144 : decode cX8_sits 144 = .ok (.iload_n 3, 1) := by decide +kernel
theorem dX8_sits_145 : decode cX8_sits 145 = .ok (.imul, 1) := by decide +kernel
theorem dX8_sits_146 : decode cX8_sits 146 = .ok (.iconst 3, 1) := by decide +kernel
theorem dX8_sits_147 : decode cX8_sits 147 = .ok (.iadd, 1) := by decide +kernel
theorem dX8_sits_148 : decode cX8_sits 148 = .ok (.iaload, 1) := by decide +kernel
theorem dX8_sits_149 : decode cX8_sits 149 = .ok (.ireturn, 1) := by decide +kernel
theorem dX8_sit_0 : decode cX8_sit 0 = .ok (.aload_n 0, 1) := by decide +kernel
theorem dX8_sit_1 : decode cX8_sit 1 = .ok (.invokevirtual 84, 3) := by decide +kernel
theorem dX8_sit_4 : decode cX8_sit 4 = .ok (.ifCond .lt 6, 3) := by decide +kernel
theorem dX8_sit_7 : decode cX8_sit 7 = .ok (.bipush (-5), 2) := by decide +kernel
theorem dX8_sit_9 : decode cX8_sit 9 = .ok (.ireturn, 1) := by decide +kernel
theorem dX8_sit_10 : decode cX8_sit 10 = .ok (.aload_n 0, 1) := by decide +kernel
theorem dX8_sit_11 : decode cX8_sit 11 = .ok (.invokevirtual 114, 3) := by decide +kernel
theorem dX8_sit_14 : decode cX8_sit 14 = .ok (.aload_n 0, 1) := by decide +kernel
theorem dX8_sit_15 : decode cX8_sit 15 = .ok (.getfield 94, 3) := by decide +kernel
theorem dX8_sit_18 : decode cX8_sit 18 = .ok (.ifCond .le 6, 3) := by decide +kernel
theorem dX8_sit_21 : decode cX8_sit 21 = .ok (.bipush (-5), 2) := by decide +kernel
theorem dX8_sit_23 : decode cX8_sit 23 = .ok (.ireturn, 1) := by decide +kernel
theorem dX8_sit_24 : decode cX8_sit 24 = .ok (.iconst 0, 1) := by decide +kernel
theorem dX8_sit_25 : decode cX8_sit 25 = .ok (.istore_n 1, 1) := by decide +kernel
theorem dX8_sit_26 : decode cX8_sit 26 = .ok (.iload_n 1, 1) := by decide +kernel
theorem dX8_sit_27 : decode cX8_sit 27 = .ok (.bipush 24, 2) := by decide +kernel
theorem dX8_sit_29 : decode cX8_sit 29 = .ok (.if_icmp .ge 21, 3) := by decide +kernel
theorem dX8_sit_32 : decode cX8_sit 32 = .ok (.aload_n 0, 1) := by decide +kernel
theorem dX8_sit_33 : decode cX8_sit 33 = .ok (.getfield 7, 3) := by decide +kernel
theorem dX8_sit_36 : decode cX8_sit 36 = .ok (.iload_n 1, 1) := by decide +kernel
theorem dX8_sit_37 : decode cX8_sit 37 = .ok (.aload_n 0, 1) := by decide +kernel
theorem dX8_sit_38 : decode cX8_sit 38 = .ok (.getfield 29, 3) := by decide +kernel
theorem dX8_sit_41 : decode cX8_sit 41 = .ok (.iload_n 1, 1) := by decide +kernel
theorem dX8_sit_42 : decode cX8_sit 42 = .ok (.iaload, 1) := by decide +kernel
theorem dX8_sit_43 : decode cX8_sit 43 = .ok (.iastore, 1) := by decide +kernel
theorem dX8_sit_44 : decode cX8_sit 44 = .ok (.iinc 1 1, 3) := by decide +kernel
theorem dX8_sit_47 : decode cX8_sit 47 = .ok (.goto (-21), 3) := by decide +kernel
theorem dX8_sit_50 : decode cX8_sit 50 = .ok (.aload_n 0, 1) := by decide +kernel
theorem dX8_sit_51 : decode cX8_sit 51 = .ok (.iconst 0, 1) := by decide +kernel
theorem dX8_sit_52 : decode cX8_sit 52 = .ok (.putfield 75, 3) := by decide +kernel
theorem dX8_sit_55 : decode cX8_sit 55 = .ok (.aload_n 0, 1) := by decide +kernel
theorem dX8_sit_56 : decode cX8_sit 56 = .ok (.getfield 97, 3) := by decide +kernel
theorem dX8_sit_59 : decode cX8_sit 59 = .ok (.ireturn, 1) := by decide +kernel
theorem dX8_matter_0 : decode cX8_matter 0 = .ok (.iload_n 1, 1) := by decide +kernel
theorem dX8_matter_1 : decode cX8_matter 1 = .ok (.invokestatic 67, 3) := by decide +kernel
theorem dX8_matter_4 : decode cX8_matter 4 = .ok (.ifCond .ne 5, 3) := by decide +kernel
theorem dX8_matter_7 : decode cX8_matter 7 = .ok (.iconst (-1), 1) := by decide +kernel
theorem dX8_matter_8 : decode cX8_matter 8 = .ok (.ireturn, 1) := by decide +kernel
theorem dX8_matter_9 : decode cX8_matter 9 = .ok (.iload_n 2, 1) := by decide +kernel
theorem dX8_matter_10 : decode cX8_matter 10 = .ok (.iconst 1, 1) := by decide +kernel
theorem dX8_matter_11 : decode cX8_matter 11 = .ok (.bipush 60, 2) := by decide +kernel
theorem dX8_matter_13 : decode cX8_matter 13 = .ok (.invokestatic 63, 3) := by decide +kernel
theorem dX8_matter_16 : decode cX8_matter 16 = .ok (.ifCond .eq 19, 3) := by decide +kernel
theorem dX8_matter_19 : decode cX8_matter 19 = .ok (.iload_n 3, 1) := by decide +kernel
theorem dX8_matter_20 : decode cX8_matter 20 = .ok (.iconst 0, 1) := by decide +kernel
theorem dX8_matter_21 : decode cX8_matter 21 = .ok (.iconst 1, 1) := by decide +kernel
theorem dX8_matter_22 : decode cX8_matter 22 = .ok (.aload_n 0, 1) := by decide +kernel
theorem dX8_matter_23 : decode cX8_matter 23 = .ok (.getfield 117, 3) := by decide +kernel
theorem dX8_matter_26 : decode cX8_matter 26 = .ok (.ishl, 1) := by decide +kernel
theorem dX8_matter_27 : decode cX8_matter 27 = .ok (.iconst 1, 1) := by decide +kernel
theorem dX8_matter_28 : decode cX8_matter 28 = .ok (.isub, 1) := by decide +kernel
theorem dX8_matter_29 : decode cX8_matter 29 = .ok (.invokestatic 63, 3) := by decide +kernel
theorem dX8_matter_32 : decode cX8_matter 32 = .ok (.ifCond .ne 6, 3) := by decide +kernel
theorem dX8_matter_35 : decode cX8_matter 35 = .ok (.bipush (-2), 2) := by decide +kernel
theorem dX8_matter_37 : decode cX8_matter 37 = .ok (.ireturn, 1) := by decide +kernel
theorem dX8_matter_38 : decode cX8_matter 38 = .ok (.aload_n 0, 1) := by decide +kernel
theorem dX8_matter_39 : decode cX8_matter 39 = .ok (.getfield 117, 3) := by decide +kernel
theorem dX8_matter_42 : decode cX8_matter 42 = .ok (.bipush 8, 2) := by decide +kernel
theorem dX8_matter_44 : decode cX8_matter 44 = .ok (.if_icmp .ne 6, 3) := by decide +kernel
theorem dX8_matter_47 : decode cX8_matter 47 = .ok (.bipush (-4), 2) := by decide +kernel
theorem dX8_matter_49 : decode cX8_matter 49 = .ok (.ireturn, 1) := by decide +kernel
theorem dX8_matter_50 : decode cX8_matter 50 = .ok (.aload_n 0, 1) := by decide +kernel
theorem dX8_matter_51 : decode cX8_matter 51 = .ok (.getfield 23, 3) := by decide +kernel
theorem dX8_matter_54 : decode cX8_matter 54 = .ok (.iconst 3, 1) := by decide +kernel
theorem dX8_matter_55 : decode cX8_matter 55 = .ok (.aload_n 0, 1) := by decide +kernel
theorem dX8_matter_56 : decode cX8_matter 56 = .ok (.getfield 117, 3) := by decide +kernel
theorem dX8_matter_59 : decode cX8_matter 59 = .ok (.imul, 1) := by decide +kernel
theorem dX8_matter_60 : decode cX8_matter 60 = .ok (.iload_n 1, 1) := by decide +kernel
theorem dX8_matter_61 : decode cX8_matter 61 = .ok (.iastore, 1) := by decide +kernel
theorem dX8_matter_62 : decode cX8_matter 62 = .ok (.aload_n 0, 1) := by decide +kernel
theorem dX8_matter_63 : decode cX8_matter 63 = .ok (.getfield 23, 3) := by decide +kernel
theorem dX8_matter_66 : decode cX8_matter 66 = .ok (.iconst 3, 1) := by decide +kernel
theorem dX8_matter_67 : decode cX8_matter 67 = .ok (.aload_n 0, 1) := by decide +kernel
theorem dX8_matter_68 : decode cX8_matter 68 = .ok (.getfield 117, 3) := by decide +kernel
theorem dX8_matter_71 : decode cX8_matter 71 = .ok (.imul, 1) := by decide +kernel
theorem dX8_matter_72 : decode cX8_matter 72 = .ok (.iconst 1, 1) := by decide +kernel
theorem dX8_matter_73 : decode cX8_matter 73 = .ok (.iadd, 1) := by decide +kernel
theorem dX8_matter_74 : decode cX8_matter 74 = .ok (.iload_n 2, 1) := by decide +kernel
theorem dX8_matter_75 : decode cX8_matter 75 = .ok (.iastore, 1) := by decide +kernel
theorem dX8_matter_76 : decode cX8_matter 76 = .ok (.aload_n 0, 1) := by decide +kernel
theorem dX8_matter_77 : decode cX8_matter 77 = .ok (.getfield 23, 3) := by decide +kernel
theorem dX8_matter_80 : decode cX8_matter 80 = .ok (.iconst 3, 1) := by decide +kernel
theorem dX8_matter_81 : decode cX8_matter 81 = .ok (.aload_n 0, 1) := by decide +kernel
theorem dX8_matter_82 : decode cX8_matter 82 = .ok (.getfield 117, 3) := by decide +kernel
theorem dX8_matter_85 : decode cX8_matter 85 = .ok (.imul, 1) := by decide +kernel
theorem dX8_matter_86 : decode cX8_matter 86 = .ok (.iconst 2, 1) := by decide +kernel
theorem dX8_matter_87 : decode cX8_matter 87 = .ok (.iadd, 1) := by decide +kernel
theorem dX8_matter_88 : decode cX8_matter 88 = .ok (.iload_n 3, 1) := by decide +kernel
theorem dX8_matter_89 : decode cX8_matter 89 = .ok (.iastore, 1) := by decide +kernel
theorem dX8_matter_90 : decode cX8_matter 90 = .ok (.aload_n 0, 1) := by decide +kernel
theorem dX8_matter_91 : decode cX8_matter 91 = .ok (.dup, 1) := by decide +kernel
theorem dX8_matter_92 : decode cX8_matter 92 = .ok (.getfield 117, 3) := by decide +kernel
theorem dX8_matter_95 : decode cX8_matter 95 = .ok (.iconst 1, 1) := by decide +kernel
theorem dX8_matter_96 : decode cX8_matter 96 = .ok (.iadd, 1) := by decide +kernel
theorem dX8_matter_97 : decode cX8_matter 97 = .ok (.putfield 117, 3) := by decide +kernel
theorem dX8_matter_100 : decode cX8_matter 100 = .ok (.aload_n 0, 1) := by decide +kernel
theorem dX8_matter_101 : decode cX8_matter 101 = .ok (.getfield 117, 3) := by decide +kernel
theorem dX8_matter_104 : decode cX8_matter 104 = .ok (.iconst 1, 1) := by decide +kernel
theorem dX8_matter_105 : decode cX8_matter 105 = .ok (.isub, 1) := by decide +kernel
theorem dX8_matter_106 : decode cX8_matter 106 = .ok (.ireturn, 1) := by decide +kernel
theorem dX8_about_0 : decode cX8_about 0 = .ok (.iload_n 1, 1) := by decide +kernel
theorem dX8_about_1 : decode cX8_about 1 = .ok (.iconst 0, 1) := by decide +kernel
theorem dX8_about_2 : decode cX8_about 2 = .ok (.aload_n 0, 1) := by decide +kernel
theorem dX8_about_3 : decode cX8_about 3 = .ok (.getfield 117, 3) := by decide +kernel
theorem dX8_about_6 : decode cX8_about 6 = .ok (.iconst 1, 1) := by decide +kernel
theorem dX8_about_7 : decode cX8_about 7 = .ok (.isub, 1) := by decide +kernel
theorem dX8_about_8 : decode cX8_about 8 = .ok (.invokestatic 63, 3) := by decide +kernel
theorem dX8_about_11 : decode cX8_about 11 = .ok (.ifCond .ne 5, 3) := by decide +kernel
theorem dX8_about_14 : decode cX8_about 14 = .ok (.iconst (-1), 1) := by decide +kernel
theorem dX8_about_15 : decode cX8_about 15 = .ok (.ireturn, 1) := by decide +kernel
theorem dX8_about_16 : decode cX8_about 16 = .ok (.iload_n 2, 1) := by decide +kernel
theorem dX8_about_17 : decode cX8_about 17 = .ok (.iconst 0, 1) := by decide +kernel
theorem dX8_about_18 : decode cX8_about 18 = .ok (.iconst 2, 1) := by decide +kernel
theorem dX8_about_19 : decode cX8_about 19 = .ok (.invokestatic 63, 3) := by decide +kernel
theorem dX8_about_22 : decode cX8_about 22 = .ok (.ifCond .eq 16, 3) := by decide +kernel
theorem dX8_about_25 : decode cX8_about 25 = .ok (.aload_n 0, 1) := by decide +kernel
theorem dX8_about_26 : decode cX8_about 26 = .ok (.getfield 23, 3) := by decide +kernel
theorem dX8_about_29 : decode cX8_about 29 = .ok (.iconst 3, 1) := by decide +kernel
theorem dX8_about_30 : decode cX8_about 30 = .ok (.iload_n 1, 1) := by decide +kernel
theorem dX8_about_31 : decode cX8_about 31 = .ok (.imul, 1) := by decide +kernel
theorem dX8_about_32 : decode cX8_about 32 = .ok (.iload_n 2, 1) := by decide +kernel
theorem dX8_about_33 : decode cX8_about 33 = .ok (.iadd, 1) := by decide +kernel
theorem dX8_about_34 : decode cX8_about 34 = .ok (.iaload, 1) := by decide +kernel
theorem dX8_about_35 : decode cX8_about 35 = .ok (.goto 5, 3) := by decide +kernel
theorem dX8_about_38 : decode cX8_about 38 = .ok (.bipush (-2), 2) := by decide +kernel
theorem dX8_about_40 : decode cX8_about 40 = .ok (.ireturn, 1) := by decide +kernel
theorem dX8_clear_0 : decode cX8_clear 0 = .ok (.aload_n 0, 1) := by decide +kernel
theorem dX8_clear_1 : decode cX8_clear 1 = .ok (.getfield 117, 3) := by decide +kernel
theorem dX8_clear_4 : decode cX8_clear 4 = .ok (.istore_n 1, 1) := by decide +kernel
theorem dX8_clear_5 : decode cX8_clear 5 = .ok (.aload_n 0, 1) := by decide +kernel
theorem dX8_clear_6 : decode cX8_clear 6 = .ok (.iconst 0, 1) := by decide +kernel
theorem dX8_clear_7 : decode cX8_clear 7 = .ok (.putfield 117, 3) := by decide +kernel
theorem dX8_clear_10 : decode cX8_clear 10 = .ok (.iload_n 1, 1) := by decide +kernel
theorem dX8_clear_11 : decode cX8_clear 11 = .ok (.ireturn, 1) := by decide +kernel
theorem dX8_mayBegin_0 : decode cX8_mayBegin 0 = .ok (.iload_n 1, 1) := by decide +kernel
theorem dX8_mayBegin_1 : decode cX8_mayBegin 1 = .ok (.iload_n 2, 1) := by decide +kernel
theorem dX8_mayBegin_2 : decode cX8_mayBegin 2 = .ok (.ishr, 1) := by decide +kernel
theorem dX8_mayBegin_3 : decode cX8_mayBegin 3 = .ok (.iconst 1, 1) := by decide +kernel
theorem dX8_mayBegin_4 : decode cX8_mayBegin 4 = .ok (.iand, 1) := by decide +kernel
theorem dX8_mayBegin_5 : decode cX8_mayBegin 5 = .ok (.ifCond .ne 24, 3) := by decide +kernel
theorem dX8_mayBegin_8 : decode cX8_mayBegin 8 = .ok (.aload_n 0, 1) := by decide +kernel
theorem dX8_mayBegin_9 : decode cX8_mayBegin 9 = .ok (.getfield 23, 3) := by decide +kernel
theorem dX8_mayBegin_12 : decode cX8_mayBegin 12 = .ok (.iconst 3, 1) := by decide +kernel
theorem dX8_mayBegin_13 : decode cX8_mayBegin 13 = .ok (.iload_n 2, 1) := by decide +kernel
theorem dX8_mayBegin_14 : decode cX8_mayBegin 14 = .ok (.imul, 1) := by decide +kernel
theorem dX8_mayBegin_15 : decode cX8_mayBegin 15 = .ok (.iconst 2, 1) := by decide +kernel
