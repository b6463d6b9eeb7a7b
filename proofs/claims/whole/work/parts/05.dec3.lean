theorem dX7_lend_41 : decode cX7_lend 41 = .ok (.iload_n 1, 1) := by decide +kernel
theorem dX7_lend_42 : decode cX7_lend 42 = .ok (.aaload, 1) := by decide +kernel
theorem dX7_lend_43 : decode cX7_lend 43 = .ok (.iload_n 2, 1) := by decide +kernel
theorem dX7_lend_44 : decode cX7_lend 44 = .ok (.iaload, 1) := by decide +kernel
theorem dX7_lend_45 : decode cX7_lend 45 = .ok (.istore 4, 2) := by decide +kernel
theorem dX7_lend_47 : decode cX7_lend 47 = .ok (.aload_n 0, 1) := by decide +kernel
theorem dX7_lend_48 : decode cX7_lend 48 = .ok (.getfield 10, 3) := by decide +kernel
theorem dX7_lend_51 : decode cX7_lend 51 = .ok (.getfield 173, 3) := by decide +kernel
theorem dX7_lend_54 : decode cX7_lend 54 = .ok (.iload_n 1, 1) := by decide +kernel
theorem dX7_lend_55 : decode cX7_lend 55 = .ok (.aaload, 1) := by decide +kernel
theorem dX7_lend_56 : decode cX7_lend 56 = .ok (.iload_n 2, 1) := by decide +kernel
theorem dX7_lend_57 : decode cX7_lend 57 = .ok (.iload_n 3, 1) := by decide +kernel
theorem dX7_lend_58 : decode cX7_lend 58 = .ok (.iastore, 1) := by decide +kernel
theorem dX7_lend_59 : decode cX7_lend 59 = .ok (.iload 4, 2) := by decide +kernel
theorem dX7_lend_61 : decode cX7_lend 61 = .ok (.ireturn, 1) := by decide +kernel
theorem dX7_net_0 : decode cX7_net 0 = .ok (.iload_n 1, 1) := by decide +kernel
theorem dX7_net_1 : decode cX7_net 1 = .ok (.invokestatic 59, 3) := by decide +kernel
theorem dX7_net_4 : decode cX7_net 4 = .ok (.ifCond .eq 21, 3) := by decide +kernel
theorem dX7_net_7 : decode cX7_net 7 = .ok (.aload_n 0, 1) := by decide +kernel
theorem dX7_net_8 : decode cX7_net 8 = .ok (.getfield 10, 3) := by decide +kernel
theorem dX7_net_11 : decode cX7_net 11 = .ok (.getfield 173, 3) := by decide +kernel
theorem dX7_net_14 : decode cX7_net 14 = .ok (.iload_n 1, 1) := by decide +kernel
theorem dX7_net_15 : decode cX7_net 15 = .ok (.invokestatic 176, 3) := by decide +kernel
theorem dX7_net_18 : decode cX7_net 18 = .ok (.sipush 1000, 3) := by decide +kernel
theorem dX7_net_21 : decode cX7_net 21 = .ok (.iadd, 1) := by decide +kernel
theorem dX7_net_22 : decode cX7_net 22 = .ok (.goto 4, 3) := by decide +kernel
theorem dX7_net_25 : decode cX7_net 25 = .ok (.iconst (-1), 1) := by decide +kernel
theorem dX7_net_26 : decode cX7_net 26 = .ok (.ireturn, 1) := by decide +kernel
theorem dX7_gifts_0 : decode cX7_gifts 0 = .ok (.aload_n 0, 1) := by decide +kernel
theorem dX7_gifts_1 : decode cX7_gifts 1 = .ok (.getfield 48, 3) := by decide +kernel
theorem dX7_gifts_4 : decode cX7_gifts 4 = .ok (.aload_n 0, 1) := by decide +kernel
theorem dX7_gifts_5 : decode cX7_gifts 5 = .ok (.getfield 10, 3) := by decide +kernel
theorem dX7_gifts_8 : decode cX7_gifts 8 = .ok (.getfield 173, 3) := by decide +kernel
theorem dX7_gifts_11 : decode cX7_gifts 11 = .ok (.invokevirtual 180, 3) := by decide +kernel
theorem dX7_gifts_14 : decode cX7_gifts 14 = .ok (.ireturn, 1) := by decide +kernel
theorem dX7_filled_0 : decode cX7_filled 0 = .ok (.aload_n 0, 1) := by decide +kernel
theorem dX7_filled_1 : decode cX7_filled 1 = .ok (.getfield 27, 3) := by decide +kernel
theorem dX7_filled_4 : decode cX7_filled 4 = .ok (.invokevirtual 88, 3) := by decide +kernel
theorem dX7_filled_7 : decode cX7_filled 7 = .ok (.bipush (-6), 2) := by decide +kernel
theorem dX7_filled_9 : decode cX7_filled 9 = .ok (.if_icmp .eq 6, 3) := by decide +kernel
theorem dX7_filled_12 : decode cX7_filled 12 = .ok (.bipush (-5), 2) := by decide +kernel
theorem dX7_filled_14 : decode cX7_filled 14 = .ok (.ireturn, 1) := by decide +kernel
theorem dX7_filled_15 : decode cX7_filled 15 = .ok (.aload_n 0, 1) := by decide +kernel
theorem dX7_filled_16 : decode cX7_filled 16 = .ok (.getfield 55, 3) := by decide +kernel
theorem dX7_filled_19 : decode cX7_filled 19 = .ok (.aload_n 0, 1) := by decide +kernel
theorem dX7_filled_20 : decode cX7_filled 20 = .ok (.getfield 27, 3) := by decide +kernel
theorem dX7_filled_23 : decode cX7_filled 23 = .ok (.aload_n 0, 1) := by decide +kernel
theorem dX7_filled_24 : decode cX7_filled 24 = .ok (.getfield 10, 3) := by decide +kernel
theorem dX7_filled_27 : decode cX7_filled 27 = .ok (.getfield 67, 3) := by decide +kernel
theorem dX7_filled_30 : decode cX7_filled 30 = .ok (.iconst 0, 1) := by decide +kernel
theorem dX7_filled_31 : decode cX7_filled 31 = .ok (.aaload, 1) := by decide +kernel
theorem dX7_filled_32 : decode cX7_filled 32 = .ok (.invokevirtual 184, 3) := by decide +kernel
theorem dX7_filled_35 : decode cX7_filled 35 = .ok (.iload_n 1, 1) := by decide +kernel
theorem dX7_filled_36 : decode cX7_filled 36 = .ok (.iconst (-1), 1) := by decide +kernel
theorem dX7_filled_37 : decode cX7_filled 37 = .ok (.if_icmp .ne 14, 3) := by decide +kernel
theorem dX7_filled_40 : decode cX7_filled 40 = .ok (.aload_n 0, 1) := by decide +kernel
theorem dX7_filled_41 : decode cX7_filled 41 = .ok (.getfield 55, 3) := by decide +kernel
theorem dX7_filled_44 : decode cX7_filled 44 = .ok (.iconst 0, 1) := by decide +kernel
theorem dX7_filled_45 : decode cX7_filled 45 = .ok (.ldc 140, 2) := by decide +kernel
theorem dX7_filled_47 : decode cX7_filled 47 = .ok (.invokestatic 188, 3) := by decide +kernel
theorem dX7_filled_50 : decode cX7_filled 50 = .ok (.ireturn, 1) := by decide +kernel
theorem dX7_filled_51 : decode cX7_filled 51 = .ok (.iload_n 1, 1) := by decide +kernel
theorem dX7_filled_52 : decode cX7_filled 52 = .ok (.ifCond .lt 31, 3) := by decide +kernel
theorem dX7_filled_55 : decode cX7_filled 55 = .ok (.iload_n 2, 1) := by decide +kernel
theorem dX7_filled_56 : decode cX7_filled 56 = .ok (.ifCond .lt 27, 3) := by decide +kernel
theorem dX7_filled_59 : decode cX7_filled 59 = .ok (.iload_n 2, 1) := by decide +kernel
theorem dX7_filled_60 : decode cX7_filled 60 = .ok (.aload_n 0, 1) := by decide +kernel
theorem dX7_filled_61 : decode cX7_filled 61 = .ok (.getfield 55, 3) := by decide +kernel
theorem dX7_filled_64 : decode cX7_filled 64 = .ok (.getfield 192, 3) := by decide +kernel
theorem dX7_filled_67 : decode cX7_filled 67 = .ok (.if_icmp .ge 16, 3) := by decide +kernel
theorem dX7_filled_70 : decode cX7_filled 70 = .ok (.aload_n 0, 1) := by decide +kernel
theorem dX7_filled_71 : decode cX7_filled 71 = .ok (.getfield 55, 3) := by decide +kernel
theorem dX7_filled_74 : decode cX7_filled 74 = .ok (.iconst 0, 1) := by decide +kernel
theorem dX7_filled_75 : decode cX7_filled 75 = .ok (.iload_n 1, 1) := by decide +kernel
theorem dX7_filled_76 : decode cX7_filled 76 = .ok (.invokestatic 188, 3) := by decide +kernel
theorem dX7_filled_79 : decode cX7_filled 79 = .ok (.iload_n 1, 1) := by decide +kernel
theorem dX7_filled_80 : decode cX7_filled 80 = .ok (.if_icmp .gt 6, 3) := by decide +kernel
theorem dX7_filled_83 : decode cX7_filled 83 = .ok (.bipush (-6), 2) := by decide +kernel
theorem dX7_filled_85 : decode cX7_filled 85 = .ok (.ireturn, 1) := by decide +kernel
theorem dX7_filled_86 : decode cX7_filled 86 = .ok (.aload_n 0, 1) := by decide +kernel
theorem dX7_filled_87 : decode cX7_filled 87 = .ok (.getfield 55, 3) := by decide +kernel
theorem dX7_filled_90 : decode cX7_filled 90 = .ok (.iload_n 2, 1) := by decide +kernel
theorem dX7_filled_91 : decode cX7_filled 91 = .ok (.invokevirtual 195, 3) := by decide +kernel
theorem dX7_filled_94 : decode cX7_filled 94 = .ok (.ireturn, 1) := by decide +kernel
theorem dX7_lie_0 : decode cX7_lie 0 = .ok (.aload_n 0, 1) := by decide +kernel
theorem dX7_lie_1 : decode cX7_lie 1 = .ok (.getfield 27, 3) := by decide +kernel
theorem dX7_lie_4 : decode cX7_lie 4 = .ok (.invokevirtual 88, 3) := by decide +kernel
theorem dX7_lie_7 : decode cX7_lie 7 = .ok (.bipush (-6), 2) := by decide +kernel
theorem dX7_lie_9 : decode cX7_lie 9 = .ok (.if_icmp .eq 6, 3) := by decide +kernel
theorem dX7_lie_12 : decode cX7_lie 12 = .ok (.bipush (-5), 2) := by decide +kernel
theorem dX7_lie_14 : decode cX7_lie 14 = .ok (.ireturn, 1) := by decide +kernel
theorem dX7_lie_15 : decode cX7_lie 15 = .ok (.aload_n 0, 1) := by decide +kernel
theorem dX7_lie_16 : decode cX7_lie 16 = .ok (.getfield 55, 3) := by decide +kernel
theorem dX7_lie_19 : decode cX7_lie 19 = .ok (.aload_n 0, 1) := by decide +kernel
theorem dX7_lie_20 : decode cX7_lie 20 = .ok (.getfield 27, 3) := by decide +kernel
theorem dX7_lie_23 : decode cX7_lie 23 = .ok (.aload_n 0, 1) := by decide +kernel
theorem dX7_lie_24 : decode cX7_lie 24 = .ok (.getfield 10, 3) := by decide +kernel
theorem dX7_lie_27 : decode cX7_lie 27 = .ok (.getfield 67, 3) := by decide +kernel
theorem dX7_lie_30 : decode cX7_lie 30 = .ok (.iconst 0, 1) := by decide +kernel
theorem dX7_lie_31 : decode cX7_lie 31 = .ok (.aaload, 1) := by decide +kernel
theorem dX7_lie_32 : decode cX7_lie 32 = .ok (.invokevirtual 184, 3) := by decide +kernel
theorem dX7_lie_35 : decode cX7_lie 35 = .ok (.aload_n 0, 1) := by decide +kernel
theorem dX7_lie_36 : decode cX7_lie 36 = .ok (.getfield 55, 3) := by decide +kernel
theorem dX7_lie_39 : decode cX7_lie 39 = .ok (.invokevirtual 198, 3) := by decide +kernel
theorem dX7_lie_42 : decode cX7_lie 42 = .ok (.ireturn, 1) := by decide +kernel
theorem dX7_floor_0 : decode cX7_floor 0 = .ok (.iload_n 1, 1) := by decide +kernel
theorem dX7_floor_1 : decode cX7_floor 1 = .ok (.ifCond .lt 9, 3) := by decide +kernel
theorem dX7_floor_4 : decode cX7_floor 4 = .ok (.iload_n 1, 1) := by decide +kernel
theorem dX7_floor_5 : decode cX7_floor 5 = .ok (.bipush 64, 2) := by decide +kernel
theorem dX7_floor_7 : decode cX7_floor 7 = .ok (.if_icmp .lt 8, 3) := by decide +kernel
theorem dX7_floor_10 : decode cX7_floor 10 = .ok (.bipush (-2), 2) := by decide +kernel
theorem dX7_floor_12 : decode cX7_floor 12 = .ok (.goto 8, 3) := by decide +kernel
theorem dX7_floor_15 : decode cX7_floor 15 = .ok (.aload_n 0, 1) := by decide +kernel
theorem dX7_floor_16 : decode cX7_floor 16 = .ok (.iload_n 1, 1) := by decide +kernel
theorem dX7_floor_17 : decode cX7_floor 17 = .ok (.invokevirtual 201, 3) := by decide +kernel
theorem dX7_floor_20 : decode cX7_floor 20 = .ok (.ireturn, 1) := by decide +kernel
theorem dX7_friends_0 : decode cX7_friends 0 = .ok (.iload_n 1, 1) := by decide +kernel
theorem dX7_friends_1 : decode cX7_friends 1 = .ok (.invokestatic 59, 3) := by decide +kernel
theorem dX7_friends_4 : decode cX7_friends 4 = .ok (.ifCond .ne 5, 3) := by decide +kernel
theorem dX7_friends_7 : decode cX7_friends 7 = .ok (.iconst (-1), 1) := by decide +kernel
theorem dX7_friends_8 : decode cX7_friends 8 = .ok (.ireturn, 1) := by decide +kernel
theorem dX7_friends_9 : decode cX7_friends 9 = .ok (.iload_n 2, 1) := by decide +kernel
theorem dX7_friends_10 : decode cX7_friends 10 = .ok (.ifCond .lt 10, 3) := by decide +kernel
theorem dX7_friends_13 : decode cX7_friends 13 = .ok (.iload_n 2, 1) := by decide +kernel
theorem dX7_friends_14 : decode cX7_friends 14 = .ok (.sipush 999, 3) := by decide +kernel
theorem dX7_friends_17 : decode cX7_friends 17 = .ok (.if_icmp .le 6, 3) := by decide +kernel
theorem dX7_friends_20 : decode cX7_friends 20 = .ok (.bipush (-2), 2) := by decide +kernel
theorem dX7_friends_22 : decode cX7_friends 22 = .ok (.ireturn, 1) := by decide +kernel
theorem dX7_friends_23 : decode cX7_friends 23 = .ok (.bipush (-6), 2) := by decide +kernel
theorem dX7_friends_25 : decode cX7_friends 25 = .ok (.istore_n 3, 1) := by decide +kernel
theorem dX7_friends_26 : decode cX7_friends 26 = .ok (.iconst 1, 1) := by decide +kernel
theorem dX7_friends_27 : decode cX7_friends 27 = .ok (.istore 4, 2) := by decide +kernel
theorem dX7_friends_29 : decode cX7_friends 29 = .ok (.iload 4, 2) := by decide +kernel
theorem dX7_friends_31 : decode cX7_friends 31 = .ok (.bipush 64, 2) := by decide +kernel
theorem dX7_friends_33 : decode cX7_friends 33 = .ok (.if_icmp .ge 61, 3) := by decide +kernel
theorem dX7_friends_36 : decode cX7_friends 36 = .ok (.iload_n 3, 1) := by decide +kernel
theorem dX7_friends_37 : decode cX7_friends 37 = .ok (.bipush (-6), 2) := by decide +kernel
theorem dX7_friends_39 : decode cX7_friends 39 = .ok (.if_icmp .eq 15, 3) := by decide +kernel
theorem dX7_friends_42 : decode cX7_friends 42 = .ok (.iload 4, 2) := by decide +kernel
theorem dX7_friends_44 : decode cX7_friends 44 = .ok (.invokestatic 204, 3) := by decide +kernel
theorem dX7_friends_47 : decode cX7_friends 47 = .ok (.iload_n 3, 1) := by decide +kernel
theorem dX7_friends_48 : decode cX7_friends 48 = .ok (.invokestatic 204, 3) := by decide +kernel
theorem dX7_friends_51 : decode cX7_friends 51 = .ok (.if_icmp .ge 7, 3) := by decide +kernel
theorem dX7_friends_54 : decode cX7_friends 54 = .ok (.iconst 1, 1) := by decide +kernel
theorem dX7_friends_55 : decode cX7_friends 55 = .ok (.goto 4, 3) := by decide +kernel
theorem dX7_friends_58 : decode cX7_friends 58 = .ok (.iconst 0, 1) := by decide +kernel
theorem dX7_friends_59 : decode cX7_friends 59 = .ok (.istore 5, 2) := by decide +kernel
theorem dX7_friends_61 : decode cX7_friends 61 = .ok (.iload 4, 2) := by decide +kernel
theorem dX7_friends_63 : decode cX7_friends 63 = .ok (.iload_n 1, 1) := by decide +kernel
theorem dX7_friends_64 : decode cX7_friends 64 = .ok (.invokestatic 209, 3) := by decide +kernel
theorem dX7_friends_67 : decode cX7_friends 67 = .ok (.ifCond .eq 21, 3) := by decide +kernel
theorem dX7_friends_70 : decode cX7_friends 70 = .ok (.iload 5, 2) := by decide +kernel
theorem dX7_friends_72 : decode cX7_friends 72 = .ok (.ifCond .eq 16, 3) := by decide +kernel
theorem dX7_friends_75 : decode cX7_friends 75 = .ok (.aload_n 0, 1) := by decide +kernel
theorem dX7_friends_76 : decode cX7_friends 76 = .ok (.iload 4, 2) := by decide +kernel
theorem dX7_friends_78 : decode cX7_friends 78 = .ok (.invokevirtual 201, 3) := by decide +kernel
theorem dX7_friends_81 : decode cX7_friends 81 = .ok (.iload_n 2, 1) := by decide +kernel
theorem dX7_friends_82 : decode cX7_friends 82 = .ok (.if_icmp .lt 6, 3) := by decide +kernel
theorem dX7_friends_85 : decode cX7_friends 85 = .ok (.iload 4, 2) := by decide +kernel
theorem dX7_friends_87 : decode cX7_friends 87 = .ok (.istore_n 3, 1) := by decide +kernel
theorem dX7_friends_88 : decode cX7_friends 88 = .ok (.iinc 4 1, 3) := by decide +kernel
theorem dX7_friends_91 : decode cX7_friends 91 = .ok (.goto (-62), 3) := by decide +kernel
theorem dX7_friends_94 : decode cX7_friends 94 = .ok (.iload_n 3, 1) := by decide +kernel
theorem dX7_friends_95 : decode cX7_friends 95 = .ok (.ireturn, 1) := by decide +kernel
theorem dX7_image_0 : decode cX7_image 0 = .ok (.iload_n 1, 1) := by decide +kernel
theorem dX7_image_1 : decode cX7_image 1 = .ok (.ifCond .lt 8, 3) := by decide +kernel
theorem dX7_image_4 : decode cX7_image 4 = .ok (.iload_n 1, 1) := by decide +kernel
theorem dX7_image_5 : decode cX7_image 5 = .ok (.iconst 2, 1) := by decide +kernel
theorem dX7_image_6 : decode cX7_image 6 = .ok (.if_icmp .lt 6, 3) := by decide +kernel
theorem dX7_image_9 : decode cX7_image 9 = .ok (.bipush (-2), 2) := by decide +kernel
theorem dX7_image_11 : decode cX7_image 11 = .ok (.ireturn, 1) := by decide +kernel
theorem dX7_image_12 : decode cX7_image 12 = .ok (.aload_n 0, 1) := by decide +kernel
theorem dX7_image_13 : decode cX7_image 13 = .ok (.getfield 16, 3) := by decide +kernel
theorem dX7_image_16 : decode cX7_image 16 = .ok (.iload_n 1, 1) := by decide +kernel
theorem dX7_image_17 : decode cX7_image 17 = .ok (.aaload, 1) := by decide +kernel
theorem dX7_image_18 : decode cX7_image 18 = .ok (.aload_n 0, 1) := by decide +kernel
theorem dX7_image_19 : decode cX7_image 19 = .ok (.getfield 10, 3) := by decide +kernel
theorem dX7_image_22 : decode cX7_image 22 = .ok (.invokevirtual 213, 3) := by decide +kernel
theorem dX7_image_25 : decode cX7_image 25 = .ok (.aload_n 0, 1) := by decide +kernel
theorem dX7_image_26 : decode cX7_image 26 = .ok (.getfield 20, 3) := by decide +kernel
theorem dX7_image_29 : decode cX7_image 29 = .ok (.iload_n 1, 1) := by decide +kernel
theorem dX7_image_30 : decode cX7_image 30 = .ok (.iconst 1, 1) := by decide +kernel
theorem dX7_image_31 : decode cX7_image 31 = .ok (.bastore, 1) := by decide +kernel
theorem dX7_image_32 : decode cX7_image 32 = .ok (.iconst 1, 1) := by decide +kernel
theorem dX7_image_33 : decode cX7_image 33 = .ok (.ireturn, 1) := by decide +kernel
theorem dX7_restore_0 : decode cX7_restore 0 = .ok (.iload_n 1, 1) := by decide +kernel
theorem dX7_restore_1 : decode cX7_restore 1 = .ok (.ifCond .lt 8, 3) := by decide +kernel
theorem dX7_restore_4 : decode cX7_restore 4 = .ok (.iload_n 1, 1) := by decide +kernel
theorem dX7_restore_5 : decode cX7_restore 5 = .ok (.iconst 2, 1) := by decide +kernel
theorem dX7_restore_6 : decode cX7_restore 6 = .ok (.if_icmp .lt 6, 3) := by decide +kernel
theorem dX7_restore_9 : decode cX7_restore 9 = .ok (.bipush (-2), 2) := by decide +kernel
theorem dX7_restore_11 : decode cX7_restore 11 = .ok (.ireturn, 1) := by decide +kernel
theorem dX7_restore_12 : decode cX7_restore 12 = .ok (.aload_n 0, 1) := by decide +kernel
theorem dX7_restore_13 : decode cX7_restore 13 = .ok (.getfield 20, 3) := by decide +kernel
theorem dX7_restore_16 : decode cX7_restore 16 = .ok (.iload_n 1, 1) := by decide +kernel
theorem dX7_restore_17 : decode cX7_restore 17 = .ok (.baload, 1) := by decide +kernel
theorem dX7_restore_18 : decode cX7_restore 18 = .ok (.ifCond .ne 6, 3) := by decide +kernel
theorem dX7_restore_21 : decode cX7_restore 21 = .ok (.bipush (-3), 2) := by decide +kernel
theorem dX7_restore_23 : decode cX7_restore 23 = .ok (.ireturn, 1) := by decide +kernel
theorem dX7_restore_24 : decode cX7_restore 24 = .ok (.aload_n 0, 1) := by decide +kernel
theorem dX7_restore_25 : decode cX7_restore 25 = .ok (.getfield 10, 3) := by decide +kernel
theorem dX7_restore_28 : decode cX7_restore 28 = .ok (.aload_n 0, 1) := by decide +kernel
theorem dX7_restore_29 : decode cX7_restore 29 = .ok (.getfield 16, 3) := by decide +kernel
theorem dX7_restore_32 : decode cX7_restore 32 = .ok (.iload_n 1, 1) := by decide +kernel
theorem dX7_restore_33 : decode cX7_restore 33 = .ok (.aaload, 1) := by decide +kernel
theorem dX7_restore_34 : decode cX7_restore 34 = .ok (.invokevirtual 213, 3) := by decide +kernel
theorem dX7_restore_37 : decode cX7_restore 37 = .ok (.iconst 1, 1) := by decide +kernel
theorem dX7_restore_38 : decode cX7_restore 38 = .ok (.ireturn, 1) := by decide +kernel
theorem dX7_told_0 : decode cX7_told 0 = .ok (.iload_n 1, 1) := by decide +kernel
theorem dX7_told_1 : decode cX7_told 1 = .ok (.bipush 100, 2) := by decide +kernel
theorem dX7_told_3 : decode cX7_told 3 = .ok (.if_icmp .lt 34, 3) := by decide +kernel
theorem dX7_told_6 : decode cX7_told 6 = .ok (.iload_n 1, 1) := by decide +kernel
theorem dX7_told_7 : decode cX7_told 7 = .ok (.sipush 136, 3) := by decide +kernel
theorem dX7_told_10 : decode cX7_told 10 = .ok (.if_icmp .ge 27, 3) := by decide +kernel
theorem dX7_told_13 : decode cX7_told 13 = .ok (.aload_n 0, 1) := by decide +kernel
theorem dX7_told_14 : decode cX7_told 14 = .ok (.getfield 10, 3) := by decide +kernel
theorem dX7_told_17 : decode cX7_told 17 = .ok (.getfield 173, 3) := by decide +kernel
theorem dX7_told_20 : decode cX7_told 20 = .ok (.iload_n 1, 1) := by decide +kernel
theorem dX7_told_21 : decode cX7_told 21 = .ok (.bipush 100, 2) := by decide +kernel
theorem dX7_told_23 : decode cX7_told 23 = .ok (.isub, 1) := by decide +kernel
theorem dX7_told_24 : decode cX7_told 24 = .ok (.bipush 6, 2) := by decide +kernel
theorem dX7_told_26 : decode cX7_told 26 = .ok (.idiv, 1) := by decide +kernel
theorem dX7_told_27 : decode cX7_told 27 = .ok (.aaload, 1) := by decide +kernel
theorem dX7_told_28 : decode cX7_told 28 = .ok (.iload_n 1, 1) := by decide +kernel
theorem dX7_told_29 : decode cX7_told 29 = .ok (.bipush 100, 2) := by decide +kernel
theorem dX7_told_31 : decode cX7_told 31 = .ok (.isub, 1) := by decide +kernel
theorem dX7_told_32 : decode cX7_told 32 = .ok (.bipush 6, 2) := by decide +kernel
theorem dX7_told_34 : decode cX7_told 34 = .ok (.irem, 1) := by decide +kernel
theorem dX7_told_35 : decode cX7_told 35 = .ok (.iaload, 1) := by decide +kernel
theorem dX7_told_36 : decode cX7_told 36 = .ok (.ireturn, 1) := by decide +kernel
theorem dX7_told_37 : decode cX7_told 37 = .ok (.iload_n 1, 1) := by decide +kernel
theorem dX7_told_38 : decode cX7_told 38 = .ok (.bipush 10, 2) := by decide +kernel
theorem dX7_told_40 : decode cX7_told 40 = .ok (.if_icmp .lt 39, 3) := by decide +kernel
theorem dX7_told_43 : decode cX7_told 43 = .ok (.iload_n 1, 1) := by decide +kernel
theorem dX7_told_44 : decode cX7_told 44 = .ok (.bipush 50, 2) := by decide +kernel
theorem dX7_told_46 : decode cX7_told 46 = .ok (.if_icmp .ge 33, 3) := by decide +kernel
theorem dX7_told_49 : decode cX7_told 49 = .ok (.iload_n 1, 1) := by decide +kernel
theorem dX7_told_50 : decode cX7_told 50 = .ok (.bipush 10, 2) := by decide +kernel
theorem dX7_told_52 : decode cX7_told 52 = .ok (.irem, 1) := by decide +kernel
theorem dX7_told_53 : decode cX7_told 53 = .ok (.invokestatic 59, 3) := by decide +kernel
theorem dX7_told_56 : decode cX7_told 56 = .ok (.ifCond .eq 23, 3) := by decide +kernel
theorem dX7_told_59 : decode cX7_told 59 = .ok (.aload_n 0, 1) := by decide +kernel
theorem dX7_told_60 : decode cX7_told 60 = .ok (.getfield 10, 3) := by decide +kernel
theorem dX7_told_63 : decode cX7_told 63 = .ok (.getfield 67, 3) := by decide +kernel
theorem dX7_told_66 : decode cX7_told 66 = .ok (.iload_n 1, 1) := by decide +kernel
theorem dX7_told_67 : decode cX7_told 67 = .ok (.bipush 10, 2) := by decide +kernel
theorem dX7_told_69 : decode cX7_told 69 = .ok (.idiv, 1) := by decide +kernel
theorem dX7_told_70 : decode cX7_told 70 = .ok (.iconst 1, 1) := by decide +kernel
theorem dX7_told_71 : decode cX7_told 71 = .ok (.isub, 1) := by decide +kernel
theorem dX7_told_72 : decode cX7_told 72 = .ok (.aaload, 1) := by decide +kernel
theorem dX7_told_73 : decode cX7_told 73 = .ok (.iload_n 1, 1) := by decide +kernel
theorem dX7_told_74 : decode cX7_told 74 = .ok (.bipush 10, 2) := by decide +kernel
theorem dX7_told_76 : decode cX7_told 76 = .ok (.irem, 1) := by decide +kernel
theorem dX7_told_77 : decode cX7_told 77 = .ok (.iaload, 1) := by decide +kernel
theorem dX7_told_78 : decode cX7_told 78 = .ok (.ireturn, 1) := by decide +kernel
theorem dX7_told_79 : decode cX7_told 79 = .ok (.iload_n 1, 1) := by decide +kernel
theorem dX7_told_80 : decode cX7_told 80 = .ok (.tableswitch 67 0 3 #[32, 40, 51, 59], 32) := by decide +kernel
theorem dX7_told_112 : decode cX7_told 112 = .ok (.aload_n 0, 1) := by decide +kernel
theorem dX7_told_113 : decode cX7_told 113 = .ok (.getfield 27, 3) := by decide +kernel
theorem dX7_told_116 : decode cX7_told 116 = .ok (.getfield 81, 3) := by decide +kernel
theorem dX7_told_119 : decode cX7_told 119 = .ok (.ireturn, 1) := by decide +kernel
theorem dX7_told_120 : decode cX7_told 120 = .ok (.aload_n 0, 1) := by decide +kernel
theorem dX7_told_121 : decode cX7_told 121 = .ok (.getfield 10, 3) := by decide +kernel
theorem dX7_told_124 : decode cX7_told 124 = .ok (.getfield 114, 3) := by decide +kernel
theorem dX7_told_127 : decode cX7_told 127 = .ok (.getfield 118, 3) := by decide +kernel
theorem dX7_told_130 : decode cX7_told 130 = .ok (.ireturn, 1) := by decide +kernel
theorem dX7_told_131 : decode cX7_told 131 = .ok (.aload_n 0, 1) := by decide +kernel
theorem dX7_told_132 : decode cX7_told 132 = .ok (.getfield 10, 3) := by decide +kernel
theorem dX7_told_135 : decode cX7_told 135 = .ok (.getfield 71, 3) := by decide +kernel
theorem dX7_told_138 : decode cX7_told 138 = .ok (.ireturn, 1) := by decide +kernel
theorem dX7_told_139 : decode cX7_told 139 = .ok (.aload_n 0, 1) := by decide +kernel
theorem dX7_told_140 : decode cX7_told 140 = .ok (.getfield 10, 3) := by decide +kernel
theorem dX7_told_143 : decode cX7_told 143 = .ok (.getfield 75, 3) := by decide +kernel
theorem dX7_told_146 : decode cX7_told 146 = .ok (.ireturn, 1) := by decide +kernel
theorem dX7_told_147 : decode cX7_told 147 = .ok (.bipush (-2), 2) := by decide +kernel
theorem dX7_told_149 : decode cX7_told 149 = .ok (.ireturn, 1) := by decide +kernel
theorem dX7_floorOf_0 : decode cX7_floorOf 0 = .ok (.iconst 0, 1) := by decide +kernel
theorem dX7_floorOf_1 : decode cX7_floorOf 1 = .ok (.istore_n 2, 1) := by decide +kernel
theorem dX7_floorOf_2 : decode cX7_floorOf 2 = .ok (.iconst 0, 1) := by decide +kernel
theorem dX7_floorOf_3 : decode cX7_floorOf 3 = .ok (.istore_n 3, 1) := by decide +kernel
theorem dX7_floorOf_4 : decode cX7_floorOf 4 = .ok (.iload_n 3, 1) := by decide +kernel
theorem dX7_floorOf_5 : decode cX7_floorOf 5 = .ok (.bipush 6, 2) := by decide +kernel
theorem dX7_floorOf_7 : decode cX7_floorOf 7 = .ok (.if_icmp .ge 31, 3) := by decide +kernel
theorem dX7_floorOf_10 : decode cX7_floorOf 10 = .ok (.iload_n 1, 1) := by decide +kernel
theorem dX7_floorOf_11 : decode cX7_floorOf 11 = .ok (.iload_n 3, 1) := by decide +kernel
theorem dX7_floorOf_12 : decode cX7_floorOf 12 = .ok (.invokestatic 209, 3) := by decide +kernel
theorem dX7_floorOf_15 : decode cX7_floorOf 15 = .ok (.ifCond .eq 17, 3) := by decide +kernel
theorem dX7_floorOf_18 : decode cX7_floorOf 18 = .ok (.iload_n 2, 1) := by decide +kernel
theorem dX7_floorOf_19 : decode cX7_floorOf 19 = .ok (.aload_n 0, 1) := by decide +kernel
theorem dX7_floorOf_20 : decode cX7_floorOf 20 = .ok (.getfield 10, 3) := by decide +kernel
theorem dX7_floorOf_23 : decode cX7_floorOf 23 = .ok (.getfield 67, 3) := by decide +kernel
theorem dX7_floorOf_26 : decode cX7_floorOf 26 = .ok (.iconst 0, 1) := by decide +kernel
theorem dX7_floorOf_27 : decode cX7_floorOf 27 = .ok (.aaload, 1) := by decide +kernel
theorem dX7_floorOf_28 : decode cX7_floorOf 28 = .ok (.iload_n 3, 1) := by decide +kernel
theorem dX7_floorOf_29 : decode cX7_floorOf 29 = .ok (.iaload, 1) := by decide +kernel
theorem dX7_floorOf_30 : decode cX7_floorOf 30 = .ok (.iadd, 1) := by decide +kernel
theorem dX7_floorOf_31 : decode cX7_floorOf 31 = .ok (.istore_n 2, 1) := by decide +kernel
theorem dX7_floorOf_32 : decode cX7_floorOf 32 = .ok (.iinc 3 1, 3) := by decide +kernel
theorem dX7_floorOf_35 : decode cX7_floorOf 35 = .ok (.goto (-31), 3) := by decide +kernel
theorem dX7_floorOf_38 : decode cX7_floorOf 38 = .ok (.iload_n 2, 1) := by decide +kernel
theorem dX7_floorOf_39 : decode cX7_floorOf 39 = .ok (.ifCond .eq 11, 3) := by decide +kernel
theorem dX7_floorOf_42 : decode cX7_floorOf 42 = .ok (.iload_n 1, 1) := by decide +kernel
theorem dX7_floorOf_43 : decode cX7_floorOf 43 = .ok (.invokestatic 204, 3) := by decide +kernel
theorem dX7_floorOf_46 : decode cX7_floorOf 46 = .ok (.iconst 1, 1) := by decide +kernel
theorem dX7_floorOf_47 : decode cX7_floorOf 47 = .ok (.if_icmp .ne 7, 3) := by decide +kernel
theorem dX7_floorOf_50 : decode cX7_floorOf 50 = .ok (.iload_n 2, 1) := by decide +kernel
theorem dX7_floorOf_51 : decode cX7_floorOf 51 = .ok (.goto 5, 3) := by decide +kernel
theorem dX7_floorOf_54 : decode cX7_floorOf 54 = .ok (.ldc 140, 2) := by decide +kernel
theorem dX7_floorOf_56 : decode cX7_floorOf 56 = .ok (.ireturn, 1) := by decide +kernel
theorem dX7_isOne_0 : decode cX7_isOne 0 = .ok (.iload_n 0, 1) := by decide +kernel
theorem dX7_isOne_1 : decode cX7_isOne 1 = .ok (.ifCond .lt 13, 3) := by decide +kernel
theorem dX7_isOne_4 : decode cX7_isOne 4 = .ok (.iload_n 0, 1) := by decide +kernel
theorem dX7_isOne_5 : decode cX7_isOne 5 = .ok (.bipush 6, 2) := by decide +kernel
theorem dX7_isOne_7 : decode cX7_isOne 7 = .ok (.if_icmp .ge 7, 3) := by decide +kernel
theorem dX7_isOne_10 : decode cX7_isOne 10 = .ok (.iconst 1, 1) := by decide +kernel
theorem dX7_isOne_11 : decode cX7_isOne 11 = .ok (.goto 4, 3) := by decide +kernel
theorem dX7_isOne_14 : decode cX7_isOne 14 = .ok (.iconst 0, 1) := by decide +kernel
theorem dX7_isOne_15 : decode cX7_isOne 15 = .ok (.ireturn, 1) := by decide +kernel
theorem dX7_isOneSign_0 : decode cX7_isOneSign 0 = .ok (.iload_n 0, 1) := by decide +kernel
theorem dX7_isOneSign_1 : decode cX7_isOneSign 1 = .ok (.bipush 97, 2) := by decide +kernel
theorem dX7_isOneSign_3 : decode cX7_isOneSign 3 = .ok (.isub, 1) := by decide +kernel
theorem dX7_isOneSign_4 : decode cX7_isOneSign 4 = .ok (.invokestatic 59, 3) := by decide +kernel
theorem dX7_isOneSign_7 : decode cX7_isOneSign 7 = .ok (.ireturn, 1) := by decide +kernel
theorem dX7_holds_0 : decode cX7_holds 0 = .ok (.iload_n 0, 1) := by decide +kernel
theorem dX7_holds_1 : decode cX7_holds 1 = .ok (.iload_n 1, 1) := by decide +kernel
theorem dX7_holds_2 : decode cX7_holds 2 = .ok (.ishr, 1) := by decide +kernel
theorem dX7_holds_3 : decode cX7_holds 3 = .ok (.iconst 1, 1) := by decide +kernel
theorem dX7_holds_4 : decode cX7_holds 4 = .ok (.iand, 1) := by decide +kernel
theorem dX7_holds_5 : decode cX7_holds 5 = .ok (.iconst 1, 1) := by decide +kernel
theorem dX7_holds_6 : decode cX7_holds 6 = .ok (.if_icmp .ne 7, 3) := by decide +kernel
theorem dX7_holds_9 : decode cX7_holds 9 = .ok (.iconst 1, 1) := by decide +kernel
theorem dX7_holds_10 : decode cX7_holds 10 = .ok (.goto 4, 3) := by decide +kernel
theorem dX7_holds_13 : decode cX7_holds 13 = .ok (.iconst 0, 1) := by decide +kernel
theorem dX7_holds_14 : decode cX7_holds 14 = .ok (.ireturn, 1) := by decide +kernel
theorem dX7_netOf_0 : decode cX7_netOf 0 = .ok (.iconst 0, 1) := by decide +kernel
theorem dX7_netOf_1 : decode cX7_netOf 1 = .ok (.istore_n 2, 1) := by decide +kernel
theorem dX7_netOf_2 : decode cX7_netOf 2 = .ok (.iconst 0, 1) := by decide +kernel
theorem dX7_netOf_3 : decode cX7_netOf 3 = .ok (.istore_n 3, 1) := by decide +kernel
theorem dX7_netOf_4 : decode cX7_netOf 4 = .ok (.iload_n 3, 1) := by decide +kernel
theorem dX7_netOf_5 : decode cX7_netOf 5 = .ok (.bipush 6, 2) := by decide +kernel
theorem dX7_netOf_7 : decode cX7_netOf 7 = .ok (.if_icmp .ge 23, 3) := by decide +kernel
theorem dX7_netOf_10 : decode cX7_netOf 10 = .ok (.iload_n 2, 1) := by decide +kernel
theorem dX7_netOf_11 : decode cX7_netOf 11 = .ok (.aload_n 0, 1) := by decide +kernel
theorem dX7_netOf_12 : decode cX7_netOf 12 = .ok (.iload_n 1, 1) := by decide +kernel
theorem dX7_netOf_13 : decode cX7_netOf 13 = .ok (.aaload, 1) := by decide +kernel
theorem dX7_netOf_14 : decode cX7_netOf 14 = .ok (.iload_n 3, 1) := by decide +kernel
theorem dX7_netOf_15 : decode cX7_netOf 15 = .ok (.iaload, 1) := by decide +kernel
theorem dX7_netOf_16 : decode cX7_netOf 16 = .ok (.aload_n 0, 1) := by decide +kernel
theorem dX7_netOf_17 : decode cX7_netOf 17 = .ok (.iload_n 3, 1) := by decide +kernel
theorem dX7_netOf_18 : decode cX7_netOf 18 = .ok (.aaload, 1) := by decide +kernel
theorem dX7_netOf_19 : decode cX7_netOf 19 = .ok (.iload_n 1, 1) := by decide +kernel
theorem dX7_netOf_20 : decode cX7_netOf 20 = .ok (.iaload, 1) := by decide +kernel
theorem dX7_netOf_21 : decode cX7_netOf 21 = .ok (.isub, 1) := by decide +kernel
theorem dX7_netOf_22 : decode cX7_netOf 22 = .ok (.iadd, 1) := by decide +kernel
theorem dX7_netOf_23 : decode cX7_netOf 23 = .ok (.istore_n 2, 1) := by decide +kernel
theorem dX7_netOf_24 : decode cX7_netOf 24 = .ok (.iinc 3 1, 3) := by decide +kernel
theorem dX7_netOf_27 : decode cX7_netOf 27 = .ok (.goto (-23), 3) := by decide +kernel
theorem dX7_netOf_30 : decode cX7_netOf 30 = .ok (.iload_n 2, 1) := by decide +kernel
theorem dX7_netOf_31 : decode cX7_netOf 31 = .ok (.ireturn, 1) := by decide +kernel
theorem dX7_copyRows_0 : decode cX7_copyRows 0 = .ok (.iconst 0, 1) := by decide +kernel
theorem dX7_copyRows_1 : decode cX7_copyRows 1 = .ok (.istore_n 3, 1) := by decide +kernel
theorem dX7_copyRows_2 : decode cX7_copyRows 2 = .ok (.iload_n 3, 1) := by decide +kernel
theorem dX7_copyRows_3 : decode cX7_copyRows 3 = .ok (.iload_n 2, 1) := by decide +kernel
theorem dX7_copyRows_4 : decode cX7_copyRows 4 = .ok (.if_icmp .ge 22, 3) := by decide +kernel
theorem dX7_copyRows_7 : decode cX7_copyRows 7 = .ok (.aload_n 0, 1) := by decide +kernel
theorem dX7_copyRows_8 : decode cX7_copyRows 8 = .ok (.iload_n 3, 1) := by decide +kernel
theorem dX7_copyRows_9 : decode cX7_copyRows 9 = .ok (.aaload, 1) := by decide +kernel
theorem dX7_copyRows_10 : decode cX7_copyRows 10 = .ok (.iconst 0, 1) := by decide +kernel
theorem dX7_copyRows_11 : decode cX7_copyRows 11 = .ok (.aload_n 1, 1) := by decide +kernel
theorem dX7_copyRows_12 : decode cX7_copyRows 12 = .ok (.iload_n 3, 1) := by decide +kernel
theorem dX7_copyRows_13 : decode cX7_copyRows 13 = .ok (.aaload, 1) := by decide +kernel
theorem dX7_copyRows_14 : decode cX7_copyRows 14 = .ok (.iconst 0, 1) := by decide +kernel
theorem dX7_copyRows_15 : decode cX7_copyRows 15 = .ok (.bipush 6, 2) := by decide +kernel
theorem dX7_copyRows_17 : decode cX7_copyRows 17 = .ok (.invokestatic 217, 3) := by decide +kernel
theorem dX7_copyRows_20 : decode cX7_copyRows 20 = .ok (.iinc 3 1, 3) := by decide +kernel
theorem dX7_copyRows_23 : decode cX7_copyRows 23 = .ok (.goto (-21), 3) := by decide +kernel
theorem dX7_copyRows_26 : decode cX7_copyRows 26 = .ok (.return_, 1) := by decide +kernel
theorem dX8_init_0 : decode cX8_init 0 = .ok (.aload_n 0, 1) := by decide +kernel
theorem dX8_init_1 : decode cX8_init 1 = .ok (.invokespecial 1, 3) := by decide +kernel
theorem dX8_init_4 : decode cX8_init 4 = .ok (.aload_n 0, 1) := by decide +kernel
theorem dX8_init_5 : decode cX8_init 5 = .ok (.bipush 24, 2) := by decide +kernel
theorem dX8_init_7 : decode cX8_init 7 = .ok (.newarray .int, 2) := by decide +kernel
theorem dX8_init_9 : decode cX8_init 9 = .ok (.putfield 7, 3) := by decide +kernel
theorem dX8_init_12 : decode cX8_init 12 = .ok (.aload_n 0, 1) := by decide +kernel
theorem dX8_init_13 : decode cX8_init 13 = .ok (.iconst 5, 1) := by decide +kernel
theorem dX8_init_14 : decode cX8_init 14 = .ok (.putfield 13, 3) := by decide +kernel
theorem dX8_init_17 : decode cX8_init 17 = .ok (.aload_n 0, 1) := by decide +kernel
theorem dX8_init_18 : decode cX8_init 18 = .ok (.iconst 2, 1) := by decide +kernel
theorem dX8_init_19 : decode cX8_init 19 = .ok (.putfield 17, 3) := by decide +kernel
theorem dX8_init_22 : decode cX8_init 22 = .ok (.aload_n 0, 1) := by decide +kernel
theorem dX8_init_23 : decode cX8_init 23 = .ok (.bipush 40, 2) := by decide +kernel
theorem dX8_init_25 : decode cX8_init 25 = .ok (.newarray .int, 2) := by decide +kernel
theorem dX8_init_27 : decode cX8_init 27 = .ok (.putfield 20, 3) := by decide +kernel
theorem dX8_init_30 : decode cX8_init 30 = .ok (.aload_n 0, 1) := by decide +kernel
theorem dX8_init_31 : decode cX8_init 31 = .ok (.bipush 24, 2) := by decide +kernel
theorem dX8_init_33 : decode cX8_init 33 = .ok (.newarray .int, 2) := by decide +kernel
theorem dX8_init_35 : decode cX8_init 35 = .ok (.putfield 23, 3) := by decide +kernel
theorem dX8_init_38 : decode cX8_init 38 = .ok (.aload_n 0, 1) := by decide +kernel
theorem dX8_init_39 : decode cX8_init 39 = .ok (.bipush 36, 2) := by decide +kernel
theorem dX8_init_41 : decode cX8_init 41 = .ok (.newarray .int, 2) := by decide +kernel
theorem dX8_init_43 : decode cX8_init 43 = .ok (.putfield 26, 3) := by decide +kernel
theorem dX8_init_46 : decode cX8_init 46 = .ok (.aload_n 0, 1) := by decide +kernel
theorem dX8_init_47 : decode cX8_init 47 = .ok (.bipush 24, 2) := by decide +kernel
theorem dX8_init_49 : decode cX8_init 49 = .ok (.newarray .int, 2) := by decide +kernel
theorem dX8_init_51 : decode cX8_init 51 = .ok (.putfield 29, 3) := by decide +kernel
theorem dX8_init_54 : decode cX8_init 54 = .ok (.aload_n 0, 1) := by decide +kernel
theorem dX8_init_55 : decode cX8_init 55 = .ok (.bipush 6, 2) := by decide +kernel
theorem dX8_init_57 : decode cX8_init 57 = .ok (.newarray .int, 2) := by decide +kernel
theorem dX8_init_59 : decode cX8_init 59 = .ok (.putfield 32, 3) := by decide +kernel
theorem dX8_init_62 : decode cX8_init 62 = .ok (.aload_n 0, 1) := by decide +kernel
theorem dX8_init_63 : decode cX8_init 63 = .ok (.bipush 6, 2) := by decide +kernel
theorem dX8_init_65 : decode cX8_init 65 = .ok (.newarray .int, 2) := by decide +kernel
theorem dX8_init_67 : decode cX8_init 67 = .ok (.putfield 35, 3) := by decide +kernel
theorem dX8_init_70 : decode cX8_init 70 = .ok (.aload_n 0, 1) := by decide +kernel
theorem dX8_init_71 : decode cX8_init 71 = .ok (.sipush 256, 3) := by decide +kernel
theorem dX8_init_74 : decode cX8_init 74 = .ok (.newarray .int, 2) := by decide +kernel
theorem dX8_init_76 : decode cX8_init 76 = .ok (.putfield 38, 3) := by decide +kernel
theorem dX8_init_79 : decode cX8_init 79 = .ok (.aload_n 0, 1) := by decide +kernel
theorem dX8_init_80 : decode cX8_init 80 = .ok (.iconst 4, 1) := by decide +kernel
theorem dX8_init_81 : decode cX8_init 81 = .ok (.newarray .int, 2) := by decide +kernel
theorem dX8_init_83 : decode cX8_init 83 = .ok (.putfield 41, 3) := by decide +kernel
theorem dX8_init_86 : decode cX8_init 86 = .ok (.aload_n 0, 1) := by decide +kernel
theorem dX8_init_87 : decode cX8_init 87 = .ok (.iconst 4, 1) := by decide +kernel
theorem dX8_init_88 : decode cX8_init 88 = .ok (.newarray .int, 2) := by decide +kernel
theorem dX8_init_90 : decode cX8_init 90 = .ok (.putfield 44, 3) := by decide +kernel
theorem dX8_init_93 : decode cX8_init 93 = .ok (.aload_n 0, 1) := by decide +kernel
theorem dX8_init_94 : decode cX8_init 94 = .ok (.bipush 64, 2) := by decide +kernel
theorem dX8_init_96 : decode cX8_init 96 = .ok (.newarray .int, 2) := by decide +kernel
theorem dX8_init_98 : decode cX8_init 98 = .ok (.putfield 47, 3) := by decide +kernel
theorem dX8_init_101 : decode cX8_init 101 = .ok (.aload_n 0, 1) := by decide +kernel
theorem dX8_init_102 : decode cX8_init 102 = .ok (.bipush 12, 2) := by decide +kernel
theorem dX8_init_104 : decode cX8_init 104 = .ok (.newarray .int, 2) := by decide +kernel
theorem dX8_init_106 : decode cX8_init 106 = .ok (.putfield 50, 3) := by decide +kernel
theorem dX8_init_109 : decode cX8_init 109 = .ok (.aload_n 0, 1) := by decide +kernel
theorem dX8_init_110 : decode cX8_init 110 = .ok (.bipush 6, 2) := by decide +kernel
theorem dX8_init_112 : decode cX8_init 112 = .ok (.newarray .int, 2) := by decide +kernel
theorem dX8_init_114 : decode cX8_init 114 = .ok (.putfield 53, 3) := by decide +kernel
theorem dX8_init_117 : decode cX8_init 117 = .ok (.aload_n 0, 1) := by decide +kernel
theorem dX8_init_118 : decode cX8_init 118 = .ok (.sipush 176, 3) := by decide +kernel
theorem dX8_init_121 : decode cX8_init 121 = .ok (.newarray .int, 2) := by decide +kernel
theorem dX8_init_123 : decode cX8_init 123 = .ok (.putfield 56, 3) := by decide +kernel
theorem dX8_init_126 : decode cX8_init 126 = .ok (.aload_n 0, 1) := by decide +kernel
theorem dX8_init_127 : decode cX8_init 127 = .ok (.iconst 2, 1) := by decide +kernel
theorem dX8_init_128 : decode cX8_init 128 = .ok (.newarray .boolean, 2) := by decide +kernel
theorem dX8_init_130 : decode cX8_init 130 = .ok (.putfield 59, 3) := by decide +kernel
theorem dX8_init_133 : decode cX8_init 133 = .ok (.iconst 0, 1) := by decide +kernel
theorem dX8_init_134 : decode cX8_init 134 = .ok (.istore_n 1, 1) := by decide +kernel
theorem dX8_init_135 : decode cX8_init 135 = .ok (.iload_n 1, 1) := by decide +kernel
theorem dX8_init_136 : decode cX8_init 136 = .ok (.bipush 6, 2) := by decide +kernel
theorem dX8_init_138 : decode cX8_init 138 = .ok (.if_icmp .ge 31, 3) := by decide +kernel
theorem dX8_init_141 : decode cX8_init 141 = .ok (.aload_n 0, 1) := by decide +kernel
theorem dX8_init_142 : decode cX8_init 142 = .ok (.getfield 7, 3) := by decide +kernel
theorem dX8_init_145 : decode cX8_init 145 = .ok (.iconst 4, 1) := by decide +kernel
theorem dX8_init_146 : decode cX8_init 146 = .ok (.iload_n 1, 1) := by decide +kernel
theorem dX8_init_147 : decode cX8_init 147 = .ok (.imul, 1) := by decide +kernel
theorem dX8_init_148 : decode cX8_init 148 = .ok (.iconst 1, 1) := by decide +kernel
theorem dX8_init_149 : decode cX8_init 149 = .ok (.iadd, 1) := by decide +kernel
theorem dX8_init_150 : decode cX8_init 150 = .ok (.iconst 1, 1) := by decide +kernel
theorem dX8_init_151 : decode cX8_init 151 = .ok (.iastore, 1) := by decide +kernel
theorem dX8_init_152 : decode cX8_init 152 = .ok (.aload_n 0, 1) := by decide +kernel
theorem dX8_init_153 : decode cX8_init 153 = .ok (.getfield 7, 3) := by decide +kernel
theorem dX8_init_156 : decode cX8_init 156 = .ok (.iconst 4, 1) := by decide +kernel
theorem dX8_init_157 : decode cX8_init 157 = .ok (.iload_n 1, 1) := by decide +kernel
theorem dX8_init_158 : decode cX8_init 158 = .ok (.imul, 1) := by decide +kernel
theorem dX8_init_159 : decode cX8_init 159 = .ok (.iconst 2, 1) := by decide +kernel
theorem dX8_init_160 : decode cX8_init 160 = .ok (.iadd, 1) := by decide +kernel
theorem dX8_init_161 : decode cX8_init 161 = .ok (.iconst 1, 1) := by decide +kernel
theorem dX8_init_162 : decode cX8_init 162 = .ok (.iastore, 1) := by decide +kernel
theorem dX8_init_163 : decode cX8_init 163 = .ok (.iinc 1 1, 3) := by decide +kernel
theorem dX8_init_166 : decode cX8_init 166 = .ok (.goto (-31), 3) := by decide +kernel
theorem dX8_init_169 : decode cX8_init 169 = .ok (.return_, 1) := by decide +kernel
theorem dX8_in_0 : decode cX8_in 0 = .ok (.iload_n 0, 1) := by decide +kernel
theorem dX8_in_1 : decode cX8_in 1 = .ok (.iload_n 1, 1) := by decide +kernel
theorem dX8_in_2 : decode cX8_in 2 = .ok (.if_icmp .lt 12, 3) := by decide +kernel
theorem dX8_in_5 : decode cX8_in 5 = .ok (.iload_n 0, 1) := by decide +kernel
theorem dX8_in_6 : decode cX8_in 6 = .ok (.iload_n 2, 1) := by decide +kernel
theorem dX8_in_7 : decode cX8_in 7 = .ok (.if_icmp .gt 7, 3) := by decide +kernel
theorem dX8_in_10 : decode cX8_in 10 = .ok (.iconst 1, 1) := by decide +kernel
theorem dX8_in_11 : decode cX8_in 11 = .ok (.goto 4, 3) := by decide +kernel
theorem dX8_in_14 : decode cX8_in 14 = .ok (.iconst 0, 1) := by decide +kernel
theorem dX8_in_15 : decode cX8_in 15 = .ok (.ireturn, 1) := by decide +kernel
theorem dX8_isOne_0 : decode cX8_isOne 0 = .ok (.iload_n 0, 1) := by decide +kernel
theorem dX8_isOne_1 : decode cX8_isOne 1 = .ok (.iconst 0, 1) := by decide +kernel
theorem dX8_isOne_2 : decode cX8_isOne 2 = .ok (.iconst 5, 1) := by decide +kernel
theorem dX8_isOne_3 : decode cX8_isOne 3 = .ok (.invokestatic 63, 3) := by decide +kernel
theorem dX8_isOne_6 : decode cX8_isOne 6 = .ok (.ireturn, 1) := by decide +kernel
theorem dX8_mostOf_0 : decode cX8_mostOf 0 = .ok (.iload_n 0, 1) := by decide +kernel
theorem dX8_mostOf_1 : decode cX8_mostOf 1 = .ok (.ifCond .ne 9, 3) := by decide +kernel
theorem dX8_mostOf_4 : decode cX8_mostOf 4 = .ok (.sipush 999, 3) := by decide +kernel
theorem dX8_mostOf_7 : decode cX8_mostOf 7 = .ok (.goto 14, 3) := by decide +kernel
theorem dX8_mostOf_10 : decode cX8_mostOf 10 = .ok (.iload_n 0, 1) := by decide +kernel
theorem dX8_mostOf_11 : decode cX8_mostOf 11 = .ok (.iconst 3, 1) := by decide +kernel
theorem dX8_mostOf_12 : decode cX8_mostOf 12 = .ok (.if_icmp .ne 8, 3) := by decide +kernel
theorem dX8_mostOf_15 : decode cX8_mostOf 15 = .ok (.bipush 99, 2) := by decide +kernel
theorem dX8_mostOf_17 : decode cX8_mostOf 17 = .ok (.goto 4, 3) := by decide +kernel
theorem dX8_mostOf_20 : decode cX8_mostOf 20 = .ok (.iconst 1, 1) := by decide +kernel
theorem dX8_mostOf_21 : decode cX8_mostOf 21 = .ok (.ireturn, 1) := by decide +kernel
theorem dX8_set_0 : decode cX8_set 0 = .ok (.iload_n 1, 1) := by decide +kernel
theorem dX8_set_1 : decode cX8_set 1 = .ok (.invokestatic 67, 3) := by decide +kernel
theorem dX8_set_4 : decode cX8_set 4 = .ok (.ifCond .ne 5, 3) := by decide +kernel
theorem dX8_set_7 : decode cX8_set 7 = .ok (.iconst (-1), 1) := by decide +kernel
theorem dX8_set_8 : decode cX8_set 8 = .ok (.ireturn, 1) := by decide +kernel
theorem dX8_set_9 : decode cX8_set 9 = .ok (.iload_n 2, 1) := by decide +kernel
theorem dX8_set_10 : decode cX8_set 10 = .ok (.iconst 0, 1) := by decide +kernel
theorem dX8_set_11 : decode cX8_set 11 = .ok (.iconst 3, 1) := by decide +kernel
theorem dX8_set_12 : decode cX8_set 12 = .ok (.invokestatic 63, 3) := by decide +kernel
theorem dX8_set_15 : decode cX8_set 15 = .ok (.ifCond .eq 15, 3) := by decide +kernel
theorem dX8_set_18 : decode cX8_set 18 = .ok (.iload_n 3, 1) := by decide +kernel
theorem dX8_set_19 : decode cX8_set 19 = .ok (.iconst 0, 1) := by decide +kernel
theorem dX8_set_20 : decode cX8_set 20 = .ok (.iload_n 2, 1) := by decide +kernel
theorem dX8_set_21 : decode cX8_set 21 = .ok (.invokestatic 71, 3) := by decide +kernel
theorem dX8_set_24 : decode cX8_set 24 = .ok (.invokestatic 63, 3) := by decide +kernel
theorem dX8_set_27 : decode cX8_set 27 = .ok (.ifCond .ne 6, 3) := by decide +kernel
theorem dX8_set_30 : decode cX8_set 30 = .ok (.bipush (-2), 2) := by decide +kernel
theorem dX8_set_32 : decode cX8_set 32 = .ok (.ireturn, 1) := by decide +kernel
theorem dX8_set_33 : decode cX8_set 33 = .ok (.aload_n 0, 1) := by decide +kernel
theorem dX8_set_34 : decode cX8_set 34 = .ok (.getfield 7, 3) := by decide +kernel
theorem dX8_set_37 : decode cX8_set 37 = .ok (.iconst 4, 1) := by decide +kernel
theorem dX8_set_38 : decode cX8_set 38 = .ok (.iload_n 1, 1) := by decide +kernel
theorem dX8_set_39 : decode cX8_set 39 = .ok (.imul, 1) := by decide +kernel
theorem dX8_set_40 : decode cX8_set 40 = .ok (.iload_n 2, 1) := by decide +kernel
theorem dX8_set_41 : decode cX8_set 41 = .ok (.iadd, 1) := by decide +kernel
theorem dX8_set_42 : decode cX8_set 42 = .ok (.iaload, 1) := by decide +kernel
theorem dX8_set_43 : decode cX8_set 43 = .ok (.istore 4, 2) := by decide +kernel
theorem dX8_set_45 : decode cX8_set 45 = .ok (.aload_n 0, 1) := by decide +kernel
theorem dX8_set_46 : decode cX8_set 46 = .ok (.getfield 7, 3) := by decide +kernel
theorem dX8_set_49 : decode cX8_set 49 = .ok (.iconst 4, 1) := by decide +kernel
theorem dX8_set_50 : decode cX8_set 50 = .ok (.iload_n 1, 1) := by decide +kernel
theorem dX8_set_51 : decode cX8_set 51 = .ok (.imul, 1) := by decide +kernel
theorem dX8_set_52 : decode cX8_set 52 = .ok (.iload_n 2, 1) := by decide +kernel
theorem dX8_set_53 : decode cX8_set 53 = .ok (.iadd, 1) := by decide +kernel
theorem dX8_set_54 : decode cX8_set 54 = .ok (.iload_n 3, 1) := by decide +kernel
theorem dX8_set_55 : decode cX8_set 55 = .ok (.iastore, 1) := by decide +kernel
theorem dX8_set_56 : decode cX8_set 56 = .ok (.iload 4, 2) := by decide +kernel
theorem dX8_set_58 : decode cX8_set 58 = .ok (.ireturn, 1) := by decide +kernel
theorem dX8_law_0 : decode cX8_law 0 = .ok (.iload_n 1, 1) := by decide +kernel
theorem dX8_law_1 : decode cX8_law 1 = .ok (.iconst 0, 1) := by decide +kernel
theorem dX8_law_2 : decode cX8_law 2 = .ok (.iconst 1, 1) := by decide +kernel
theorem dX8_law_3 : decode cX8_law 3 = .ok (.invokestatic 63, 3) := by decide +kernel
theorem dX8_law_6 : decode cX8_law 6 = .ok (.ifCond .eq 13, 3) := by decide +kernel
theorem dX8_law_9 : decode cX8_law 9 = .ok (.iload_n 2, 1) := by decide +kernel
theorem dX8_law_10 : decode cX8_law 10 = .ok (.iconst 0, 1) := by decide +kernel
theorem dX8_law_11 : decode cX8_law 11 = .ok (.bipush 99, 2) := by decide +kernel
theorem dX8_law_13 : decode cX8_law 13 = .ok (.invokestatic 63, 3) := by decide +kernel
theorem dX8_law_16 : decode cX8_law 16 = .ok (.ifCond .ne 6, 3) := by decide +kernel
theorem dX8_law_19 : decode cX8_law 19 = .ok (.bipush (-2), 2) := by decide +kernel
theorem dX8_law_21 : decode cX8_law 21 = .ok (.ireturn, 1) := by decide +kernel
theorem dX8_law_22 : decode cX8_law 22 = .ok (.iload_n 1, 1) := by decide +kernel
theorem dX8_law_23 : decode cX8_law 23 = .ok (.ifCond .ne 10, 3) := by decide +kernel
theorem dX8_law_26 : decode cX8_law 26 = .ok (.aload_n 0, 1) := by decide +kernel
theorem dX8_law_27 : decode cX8_law 27 = .ok (.getfield 13, 3) := by decide +kernel
theorem dX8_law_30 : decode cX8_law 30 = .ok (.goto 7, 3) := by decide +kernel
theorem dX8_law_33 : decode cX8_law 33 = .ok (.aload_n 0, 1) := by decide +kernel
theorem dX8_law_34 : decode cX8_law 34 = .ok (.getfield 17, 3) := by decide +kernel
theorem dX8_law_37 : decode cX8_law 37 = .ok (.istore_n 3, 1) := by decide +kernel
theorem dX8_law_38 : decode cX8_law 38 = .ok (.aload_n 0, 1) := by decide +kernel
theorem dX8_law_39 : decode cX8_law 39 = .ok (.iload_n 1, 1) := by decide +kernel
theorem dX8_law_40 : decode cX8_law 40 = .ok (.ifCond .ne 7, 3) := by decide +kernel
theorem dX8_law_43 : decode cX8_law 43 = .ok (.iload_n 2, 1) := by decide +kernel
theorem dX8_law_44 : decode cX8_law 44 = .ok (.goto 7, 3) := by decide +kernel
theorem dX8_law_47 : decode cX8_law 47 = .ok (.aload_n 0, 1) := by decide +kernel
theorem dX8_law_48 : decode cX8_law 48 = .ok (.getfield 13, 3) := by decide +kernel
theorem dX8_law_51 : decode cX8_law 51 = .ok (.putfield 13, 3) := by decide +kernel
theorem dX8_law_54 : decode cX8_law 54 = .ok (.aload_n 0, 1) := by decide +kernel
theorem dX8_law_55 : decode cX8_law 55 = .ok (.iload_n 1, 1) := by decide +kernel
theorem dX8_law_56 : decode cX8_law 56 = .ok (.iconst 1, 1) := by decide +kernel
theorem dX8_law_57 : decode cX8_law 57 = .ok (.if_icmp .ne 7, 3) := by decide +kernel
theorem dX8_law_60 : decode cX8_law 60 = .ok (.iload_n 2, 1) := by decide +kernel
theorem dX8_law_61 : decode cX8_law 61 = .ok (.goto 7, 3) := by decide +kernel
theorem dX8_law_64 : decode cX8_law 64 = .ok (.aload_n 0, 1) := by decide +kernel
theorem dX8_law_65 : decode cX8_law 65 = .ok (.getfield 17, 3) := by decide +kernel
theorem dX8_law_68 : decode cX8_law 68 = .ok (.putfield 17, 3) := by decide +kernel
theorem dX8_law_71 : decode cX8_law 71 = .ok (.iload_n 3, 1) := by decide +kernel
theorem dX8_law_72 : decode cX8_law 72 = .ok (.ireturn, 1) := by decide +kernel
theorem dX8_say_0 : decode cX8_say 0 = .ok (.iload_n 1, 1) := by decide +kernel
theorem dX8_say_1 : decode cX8_say 1 = .ok (.bipush 33, 2) := by decide +kernel
theorem dX8_say_3 : decode cX8_say 3 = .ok (.bipush 126, 2) := by decide +kernel
theorem dX8_say_5 : decode cX8_say 5 = .ok (.invokestatic 63, 3) := by decide +kernel
theorem dX8_say_8 : decode cX8_say 8 = .ok (.ifCond .ne 6, 3) := by decide +kernel
theorem dX8_say_11 : decode cX8_say 11 = .ok (.bipush (-2), 2) := by decide +kernel
theorem dX8_say_13 : decode cX8_say 13 = .ok (.ireturn, 1) := by decide +kernel
theorem dX8_say_14 : decode cX8_say 14 = .ok (.aload_n 0, 1) := by decide +kernel
theorem dX8_say_15 : decode cX8_say 15 = .ok (.getfield 75, 3) := by decide +kernel
theorem dX8_say_18 : decode cX8_say 18 = .ok (.bipush 40, 2) := by decide +kernel
theorem dX8_say_20 : decode cX8_say 20 = .ok (.if_icmp .ne 6, 3) := by decide +kernel
theorem dX8_say_23 : decode cX8_say 23 = .ok (.bipush (-4), 2) := by decide +kernel
theorem dX8_say_25 : decode cX8_say 25 = .ok (.ireturn, 1) := by decide +kernel
theorem dX8_say_26 : decode cX8_say 26 = .ok (.aload_n 0, 1) := by decide +kernel
theorem dX8_say_27 : decode cX8_say 27 = .ok (.getfield 20, 3) := by decide +kernel
theorem dX8_say_30 : decode cX8_say 30 = .ok (.aload_n 0, 1) := by decide +kernel
theorem dX8_say_31 : decode cX8_say 31 = .ok (.getfield 75, 3) := by decide +kernel
theorem dX8_say_34 : decode cX8_say 34 = .ok (.iload_n 1, 1) := by decide +kernel
theorem dX8_say_35 : decode cX8_say 35 = .ok (.iastore, 1) := by decide +kernel
theorem dX8_say_36 : decode cX8_say 36 = .ok (.aload_n 0, 1) := by decide +kernel
theorem dX8_say_37 : decode cX8_say 37 = .ok (.dup, 1) := by decide +kernel
theorem dX8_say_38 : decode cX8_say 38 = .ok (.getfield 75, 3) := by decide +kernel
theorem dX8_say_41 : decode cX8_say 41 = .ok (.iconst 1, 1) := by decide +kernel
theorem dX8_say_42 : decode cX8_say 42 = .ok (.iadd, 1) := by decide +kernel
theorem dX8_say_43 : decode cX8_say 43 = .ok (.putfield 75, 3) := by decide +kernel
theorem dX8_say_46 : decode cX8_say 46 = .ok (.aload_n 0, 1) := by decide +kernel
theorem dX8_say_47 : decode cX8_say 47 = .ok (.getfield 75, 3) := by decide +kernel
theorem dX8_say_50 : decode cX8_say 50 = .ok (.ireturn, 1) := by decide +kernel
theorem dX8_wipe_0 : decode cX8_wipe 0 = .ok (.aload_n 0, 1) := by decide +kernel
theorem dX8_wipe_1 : decode cX8_wipe 1 = .ok (.getfield 75, 3) := by decide +kernel
theorem dX8_wipe_4 : decode cX8_wipe 4 = .ok (.istore_n 1, 1) := by decide +kernel
theorem dX8_wipe_5 : decode cX8_wipe 5 = .ok (.aload_n 0, 1) := by decide +kernel
theorem dX8_wipe_6 : decode cX8_wipe 6 = .ok (.iconst 0, 1) := by decide +kernel
theorem dX8_wipe_7 : decode cX8_wipe 7 = .ok (.putfield 75, 3) := by decide +kernel
theorem dX8_wipe_10 : decode cX8_wipe 10 = .ok (.iload_n 1, 1) := by decide +kernel
theorem dX8_wipe_11 : decode cX8_wipe 11 = .ok (.ireturn, 1) := by decide +kernel
theorem dX8_isName_0 : decode cX8_isName 0 = .ok (.iload_n 0, 1) := by decide +kernel
theorem dX8_isName_1 : decode cX8_isName 1 = .ok (.bipush 97, 2) := by decide +kernel
theorem dX8_isName_3 : decode cX8_isName 3 = .ok (.bipush 102, 2) := by decide +kernel
theorem dX8_isName_5 : decode cX8_isName 5 = .ok (.invokestatic 63, 3) := by decide +kernel
theorem dX8_isName_8 : decode cX8_isName 8 = .ok (.ireturn, 1) := by decide +kernel
theorem dX8_isAct_0 : decode cX8_isAct 0 = .ok (.iload_n 0, 1) := by decide +kernel
theorem dX8_isAct_1 : decode cX8_isAct 1 = .ok (.bipush 122, 2) := by decide +kernel
theorem dX8_isAct_3 : decode cX8_isAct 3 = .ok (.if_icmp .eq 27, 3) := by decide +kernel
theorem dX8_isAct_6 : decode cX8_isAct 6 = .ok (.iload_n 0, 1) := by decide +kernel
theorem dX8_isAct_7 : decode cX8_isAct 7 = .ok (.bipush 121, 2) := by decide +kernel
theorem dX8_isAct_9 : decode cX8_isAct 9 = .ok (.if_icmp .eq 21, 3) := by decide +kernel
theorem dX8_isAct_12 : decode cX8_isAct 12 = .ok (.iload_n 0, 1) := by decide +kernel
theorem dX8_isAct_13 : decode cX8_isAct 13 = .ok (.bipush 120, 2) := by decide +kernel
theorem dX8_isAct_15 : decode cX8_isAct 15 = .ok (.if_icmp .eq 15, 3) := by decide +kernel
theorem dX8_isAct_18 : decode cX8_isAct 18 = .ok (.iload_n 0, 1) := by decide +kernel
theorem dX8_isAct_19 : decode cX8_isAct 19 = .ok (.bipush 105, 2) := by decide +kernel
theorem dX8_isAct_21 : decode cX8_isAct 21 = .ok (.if_icmp .eq 9, 3) := by decide +kernel
theorem dX8_isAct_24 : decode cX8_isAct 24 = .ok (.iload_n 0, 1) := by decide +kernel
theorem dX8_isAct_25 : decode cX8_isAct 25 = .ok (.bipush 107, 2) := by decide +kernel
theorem dX8_isAct_27 : decode cX8_isAct 27 = .ok (.if_icmp .ne 7, 3) := by decide +kernel
theorem dX8_isAct_30 : decode cX8_isAct 30 = .ok (.iconst 1, 1) := by decide +kernel
theorem dX8_isAct_31 : decode cX8_isAct 31 = .ok (.goto 4, 3) := by decide +kernel
theorem dX8_isAct_34 : decode cX8_isAct 34 = .ok (.iconst 0, 1) := by decide +kernel
theorem dX8_isAct_35 : decode cX8_isAct 35 = .ok (.ireturn, 1) := by decide +kernel
theorem dX8_sittingFault_0 : decode cX8_sittingFault 0 = .ok (.iconst 0, 1) := by decide +kernel
theorem dX8_sittingFault_1 : decode cX8_sittingFault 1 = .ok (.istore_n 1, 1) := by decide +kernel
theorem dX8_sittingFault_2 : decode cX8_sittingFault 2 = .ok (.iconst 0, 1) := by decide +kernel
theorem dX8_sittingFault_3 : decode cX8_sittingFault 3 = .ok (.istore_n 2, 1) := by decide +kernel
theorem dX8_sittingFault_4 : decode cX8_sittingFault 4 = .ok (.iload_n 2, 1) := by decide +kernel
theorem dX8_sittingFault_5 : decode cX8_sittingFault 5 = .ok (.aload_n 0, 1) := by decide +kernel
theorem dX8_sittingFault_6 : decode cX8_sittingFault 6 = .ok (.getfield 75, 3) := by decide +kernel
theorem dX8_sittingFault_9 : decode cX8_sittingFault 9 = .ok (.if_icmp .ge 179, 3) := by decide +kernel
theorem dX8_sittingFault_12 : decode cX8_sittingFault 12 = .ok (.aload_n 0, 1) := by decide +kernel
theorem dX8_sittingFault_13 : decode cX8_sittingFault 13 = .ok (.getfield 20, 3) := by decide +kernel
theorem dX8_sittingFault_16 : decode cX8_sittingFault 16 = .ok (.iload_n 2, 1) := by decide +kernel
theorem dX8_sittingFault_17 : decode cX8_sittingFault 17 = .ok (.iaload, 1) := by decide +kernel
theorem dX8_sittingFault_18 : decode cX8_sittingFault 18 = .ok (.istore_n 3, 1) := by decide +kernel
theorem dX8_sittingFault_19 : decode cX8_sittingFault 19 = .ok (.bipush (-6), 2) := by decide +kernel
theorem dX8_sittingFault_21 : decode cX8_sittingFault 21 = .ok (.istore 4, 2) := by decide +kernel
theorem dX8_sittingFault_23 : decode cX8_sittingFault 23 = .ok (.iload_n 1, 1) := by decide +kernel
theorem dX8_sittingFault_24 : decode cX8_sittingFault 24 = .ok (.ifCond .ne 48, 3) := by decide +kernel
theorem dX8_sittingFault_27 : decode cX8_sittingFault 27 = .ok (.iload_n 3, 1) := by decide +kernel
theorem dX8_sittingFault_28 : decode cX8_sittingFault 28 = .ok (.invokestatic 78, 3) := by decide +kernel
theorem dX8_sittingFault_31 : decode cX8_sittingFault 31 = .ok (.ifCond .ne 9, 3) := by decide +kernel
theorem dX8_sittingFault_34 : decode cX8_sittingFault 34 = .ok (.iload_n 3, 1) := by decide +kernel
theorem dX8_sittingFault_35 : decode cX8_sittingFault 35 = .ok (.bipush 46, 2) := by decide +kernel
theorem dX8_sittingFault_37 : decode cX8_sittingFault 37 = .ok (.if_icmp .ne 7, 3) := by decide +kernel
theorem dX8_sittingFault_40 : decode cX8_sittingFault 40 = .ok (.iconst 1, 1) := by decide +kernel
theorem dX8_sittingFault_41 : decode cX8_sittingFault 41 = .ok (.goto 26, 3) := by decide +kernel
theorem dX8_sittingFault_44 : decode cX8_sittingFault 44 = .ok (.iload_n 3, 1) := by decide +kernel
theorem dX8_sittingFault_45 : decode cX8_sittingFault 45 = .ok (.invokestatic 81, 3) := by decide +kernel
theorem dX8_sittingFault_48 : decode cX8_sittingFault 48 = .ok (.ifCond .eq 7, 3) := by decide +kernel
theorem dX8_sittingFault_51 : decode cX8_sittingFault 51 = .ok (.iconst 2, 1) := by decide +kernel
theorem dX8_sittingFault_52 : decode cX8_sittingFault 52 = .ok (.goto 15, 3) := by decide +kernel
theorem dX8_sittingFault_55 : decode cX8_sittingFault 55 = .ok (.iload_n 3, 1) := by decide +kernel
theorem dX8_sittingFault_56 : decode cX8_sittingFault 56 = .ok (.bipush 63, 2) := by decide +kernel
theorem dX8_sittingFault_58 : decode cX8_sittingFault 58 = .ok (.if_icmp .ne 7, 3) := by decide +kernel
theorem dX8_sittingFault_61 : decode cX8_sittingFault 61 = .ok (.iconst 3, 1) := by decide +kernel
theorem dX8_sittingFault_62 : decode cX8_sittingFault 62 = .ok (.goto 5, 3) := by decide +kernel
theorem dX8_sittingFault_65 : decode cX8_sittingFault 65 = .ok (.bipush (-6), 2) := by decide +kernel
theorem dX8_sittingFault_67 : decode cX8_sittingFault 67 = .ok (.istore 4, 2) := by decide +kernel
theorem dX8_sittingFault_69 : decode cX8_sittingFault 69 = .ok (.goto 103, 3) := by decide +kernel
theorem dX8_sittingFault_72 : decode cX8_sittingFault 72 = .ok (.iload_n 1, 1) := by decide +kernel
theorem dX8_sittingFault_73 : decode cX8_sittingFault 73 = .ok (.iconst 1, 1) := by decide +kernel
theorem dX8_sittingFault_74 : decode cX8_sittingFault 74 = .ok (.if_icmp .ne 25, 3) := by decide +kernel
theorem dX8_sittingFault_77 : decode cX8_sittingFault 77 = .ok (.iload_n 3, 1) := by decide +kernel
theorem dX8_sittingFault_78 : decode cX8_sittingFault 78 = .ok (.bipush 49, 2) := by decide +kernel
theorem dX8_sittingFault_80 : decode cX8_sittingFault 80 = .ok (.bipush 57, 2) := by decide +kernel
theorem dX8_sittingFault_82 : decode cX8_sittingFault 82 = .ok (.invokestatic 63, 3) := by decide +kernel
theorem dX8_sittingFault_85 : decode cX8_sittingFault 85 = .ok (.ifCond .eq 7, 3) := by decide +kernel
theorem dX8_sittingFault_88 : decode cX8_sittingFault 88 = .ok (.iconst 0, 1) := by decide +kernel
theorem dX8_sittingFault_89 : decode cX8_sittingFault 89 = .ok (.goto 5, 3) := by decide +kernel
theorem dX8_sittingFault_92 : decode cX8_sittingFault 92 = .ok (.bipush (-6), 2) := by decide +kernel
theorem dX8_sittingFault_94 : decode cX8_sittingFault 94 = .ok (.istore 4, 2) := by decide +kernel
theorem dX8_sittingFault_96 : decode cX8_sittingFault 96 = .ok (.goto 76, 3) := by decide +kernel
theorem dX8_sittingFault_99 : decode cX8_sittingFault 99 = .ok (.iload_n 1, 1) := by decide +kernel
theorem dX8_sittingFault_100 : decode cX8_sittingFault 100 = .ok (.iconst 2, 1) := by decide +kernel
theorem dX8_sittingFault_101 : decode cX8_sittingFault 101 = .ok (.if_icmp .ne 21, 3) := by decide +kernel
theorem dX8_sittingFault_104 : decode cX8_sittingFault 104 = .ok (.iload_n 3, 1) := by decide +kernel
theorem dX8_sittingFault_105 : decode cX8_sittingFault 105 = .ok (.invokestatic 78, 3) := by decide +kernel
theorem dX8_sittingFault_108 : decode cX8_sittingFault 108 = .ok (.ifCond .eq 7, 3) := by decide +kernel
theorem dX8_sittingFault_111 : decode cX8_sittingFault 111 = .ok (.iconst 0, 1) := by decide +kernel
theorem dX8_sittingFault_112 : decode cX8_sittingFault 112 = .ok (.goto 5, 3) := by decide +kernel
theorem dX8_sittingFault_115 : decode cX8_sittingFault 115 = .ok (.bipush (-6), 2) := by decide +kernel
theorem dX8_sittingFault_117 : decode cX8_sittingFault 117 = .ok (.istore 4, 2) := by decide +kernel
theorem dX8_sittingFault_119 : decode cX8_sittingFault 119 = .ok (.goto 53, 3) := by decide +kernel
theorem dX8_sittingFault_122 : decode cX8_sittingFault 122 = .ok (.iload_n 1, 1) := by decide +kernel
theorem dX8_sittingFault_123 : decode cX8_sittingFault 123 = .ok (.iconst 3, 1) := by decide +kernel
theorem dX8_sittingFault_124 : decode cX8_sittingFault 124 = .ok (.if_icmp .ne 21, 3) := by decide +kernel
theorem dX8_sittingFault_127 : decode cX8_sittingFault 127 = .ok (.iload_n 3, 1) := by decide +kernel
