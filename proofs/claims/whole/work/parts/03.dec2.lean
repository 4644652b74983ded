theorem dX10_undo_29 : decode cX10_undo 29 = .ok (.getfield 111, 3) := by decide +kernel
theorem dX10_undo_32 : decode cX10_undo 32 = .ok (.ireturn, 1) := by decide +kernel
theorem dX10_of_0 : decode cX10_of 0 = .ok (.aload_n 0, 1) := by decide +kernel
theorem dX10_of_1 : decode cX10_of 1 = .ok (.iload_n 1, 1) := by decide +kernel
theorem dX10_of_2 : decode cX10_of 2 = .ok (.invokevirtual 123, 3) := by decide +kernel
theorem dX10_of_5 : decode cX10_of 5 = .ok (.ifCond .ne 8, 3) := by decide +kernel
theorem dX10_of_8 : decode cX10_of 8 = .ok (.aload_n 0, 1) := by decide +kernel
theorem dX10_of_9 : decode cX10_of 9 = .ok (.invokevirtual 74, 3) := by decide +kernel
theorem dX10_of_12 : decode cX10_of 12 = .ok (.ireturn, 1) := by decide +kernel
theorem dX10_of_13 : decode cX10_of 13 = .ok (.iload_n 2, 1) := by decide +kernel
theorem dX10_of_14 : decode cX10_of 14 = .ok (.tableswitch 94 0 4 #[34, 44, 54, 67, 82], 34) := by decide +kernel
theorem dX10_of_48 : decode cX10_of 48 = .ok (.aload_n 0, 1) := by decide +kernel
theorem dX10_of_49 : decode cX10_of 49 = .ok (.getfield 26, 3) := by decide +kernel
theorem dX10_of_52 : decode cX10_of 52 = .ok (.getfield 146, 3) := by decide +kernel
theorem dX10_of_55 : decode cX10_of 55 = .ok (.iload_n 1, 1) := by decide +kernel
theorem dX10_of_56 : decode cX10_of 56 = .ok (.iaload, 1) := by decide +kernel
theorem dX10_of_57 : decode cX10_of 57 = .ok (.ireturn, 1) := by decide +kernel
theorem dX10_of_58 : decode cX10_of 58 = .ok (.aload_n 0, 1) := by decide +kernel
theorem dX10_of_59 : decode cX10_of 59 = .ok (.getfield 26, 3) := by decide +kernel
theorem dX10_of_62 : decode cX10_of 62 = .ok (.getfield 126, 3) := by decide +kernel
theorem dX10_of_65 : decode cX10_of 65 = .ok (.iload_n 1, 1) := by decide +kernel
theorem dX10_of_66 : decode cX10_of 66 = .ok (.iaload, 1) := by decide +kernel
theorem dX10_of_67 : decode cX10_of 67 = .ok (.ireturn, 1) := by decide +kernel
theorem dX10_of_68 : decode cX10_of 68 = .ok (.aload_n 0, 1) := by decide +kernel
theorem dX10_of_69 : decode cX10_of 69 = .ok (.getfield 26, 3) := by decide +kernel
theorem dX10_of_72 : decode cX10_of 72 = .ok (.getfield 102, 3) := by decide +kernel
theorem dX10_of_75 : decode cX10_of 75 = .ok (.getfield 134, 3) := by decide +kernel
theorem dX10_of_78 : decode cX10_of 78 = .ok (.iload_n 1, 1) := by decide +kernel
theorem dX10_of_79 : decode cX10_of 79 = .ok (.iaload, 1) := by decide +kernel
theorem dX10_of_80 : decode cX10_of 80 = .ok (.ireturn, 1) := by decide +kernel
theorem dX10_of_81 : decode cX10_of 81 = .ok (.aload_n 0, 1) := by decide +kernel
theorem dX10_of_82 : decode cX10_of 82 = .ok (.getfield 26, 3) := by decide +kernel
theorem dX10_of_85 : decode cX10_of 85 = .ok (.getfield 102, 3) := by decide +kernel
theorem dX10_of_88 : decode cX10_of 88 = .ok (.getfield 149, 3) := by decide +kernel
theorem dX10_of_91 : decode cX10_of 91 = .ok (.iload_n 1, 1) := by decide +kernel
theorem dX10_of_92 : decode cX10_of 92 = .ok (.ishr, 1) := by decide +kernel
theorem dX10_of_93 : decode cX10_of 93 = .ok (.iconst 1, 1) := by decide +kernel
theorem dX10_of_94 : decode cX10_of 94 = .ok (.iand, 1) := by decide +kernel
theorem dX10_of_95 : decode cX10_of 95 = .ok (.ireturn, 1) := by decide +kernel
theorem dX10_of_96 : decode cX10_of 96 = .ok (.aload_n 0, 1) := by decide +kernel
theorem dX10_of_97 : decode cX10_of 97 = .ok (.getfield 26, 3) := by decide +kernel
theorem dX10_of_100 : decode cX10_of 100 = .ok (.iload_n 1, 1) := by decide +kernel
theorem dX10_of_101 : decode cX10_of 101 = .ok (.invokevirtual 152, 3) := by decide +kernel
theorem dX10_of_104 : decode cX10_of 104 = .ok (.invokevirtual 156, 3) := by decide +kernel
theorem dX10_of_107 : decode cX10_of 107 = .ok (.ireturn, 1) := by decide +kernel
theorem dX10_of_108 : decode cX10_of 108 = .ok (.aload_n 0, 1) := by decide +kernel
theorem dX10_of_109 : decode cX10_of 109 = .ok (.invokevirtual 74, 3) := by decide +kernel
theorem dX10_of_112 : decode cX10_of 112 = .ok (.ireturn, 1) := by decide +kernel
theorem dX10_far_0 : decode cX10_far 0 = .ok (.iload_n 1, 1) := by decide +kernel
theorem dX10_far_1 : decode cX10_far 1 = .ok (.invokestatic 55, 3) := by decide +kernel
theorem dX10_far_4 : decode cX10_far 4 = .ok (.ifCond .eq 10, 3) := by decide +kernel
theorem dX10_far_7 : decode cX10_far 7 = .ok (.iload_n 2, 1) := by decide +kernel
theorem dX10_far_8 : decode cX10_far 8 = .ok (.invokestatic 55, 3) := by decide +kernel
theorem dX10_far_11 : decode cX10_far 11 = .ok (.ifCond .ne 8, 3) := by decide +kernel
theorem dX10_far_14 : decode cX10_far 14 = .ok (.aload_n 0, 1) := by decide +kernel
theorem dX10_far_15 : decode cX10_far 15 = .ok (.invokevirtual 74, 3) := by decide +kernel
theorem dX10_far_18 : decode cX10_far 18 = .ok (.ireturn, 1) := by decide +kernel
theorem dX10_far_19 : decode cX10_far 19 = .ok (.aload_n 0, 1) := by decide +kernel
theorem dX10_far_20 : decode cX10_far 20 = .ok (.getfield 26, 3) := by decide +kernel
theorem dX10_far_23 : decode cX10_far 23 = .ok (.iload_n 1, 1) := by decide +kernel
theorem dX10_far_24 : decode cX10_far 24 = .ok (.iload_n 2, 1) := by decide +kernel
theorem dX10_far_25 : decode cX10_far 25 = .ok (.invokevirtual 117, 3) := by decide +kernel
theorem dX10_far_28 : decode cX10_far 28 = .ok (.istore_n 3, 1) := by decide +kernel
theorem dX10_far_29 : decode cX10_far 29 = .ok (.iload_n 3, 1) := by decide +kernel
theorem dX10_far_30 : decode cX10_far 30 = .ok (.sipush 1000, 3) := by decide +kernel
theorem dX10_far_33 : decode cX10_far 33 = .ok (.if_icmp .lt 7, 3) := by decide +kernel
theorem dX10_far_36 : decode cX10_far 36 = .ok (.iconst (-1), 1) := by decide +kernel
theorem dX10_far_37 : decode cX10_far 37 = .ok (.goto 4, 3) := by decide +kernel
theorem dX10_far_40 : decode cX10_far 40 = .ok (.iload_n 3, 1) := by decide +kernel
theorem dX10_far_41 : decode cX10_far 41 = .ok (.ireturn, 1) := by decide +kernel
theorem dX10_beeps_0 : decode cX10_beeps 0 = .ok (.aload_n 0, 1) := by decide +kernel
theorem dX10_beeps_1 : decode cX10_beeps 1 = .ok (.iload_n 1, 1) := by decide +kernel
theorem dX10_beeps_2 : decode cX10_beeps 2 = .ok (.invokevirtual 123, 3) := by decide +kernel
theorem dX10_beeps_5 : decode cX10_beeps 5 = .ok (.ifCond .eq 10, 3) := by decide +kernel
theorem dX10_beeps_8 : decode cX10_beeps 8 = .ok (.iload_n 2, 1) := by decide +kernel
theorem dX10_beeps_9 : decode cX10_beeps 9 = .ok (.invokestatic 161, 3) := by decide +kernel
theorem dX10_beeps_12 : decode cX10_beeps 12 = .ok (.ifCond .ne 8, 3) := by decide +kernel
theorem dX10_beeps_15 : decode cX10_beeps 15 = .ok (.aload_n 0, 1) := by decide +kernel
theorem dX10_beeps_16 : decode cX10_beeps 16 = .ok (.invokevirtual 74, 3) := by decide +kernel
theorem dX10_beeps_19 : decode cX10_beeps 19 = .ok (.ireturn, 1) := by decide +kernel
theorem dX10_beeps_20 : decode cX10_beeps 20 = .ok (.aload_n 0, 1) := by decide +kernel
theorem dX10_beeps_21 : decode cX10_beeps 21 = .ok (.getfield 26, 3) := by decide +kernel
theorem dX10_beeps_24 : decode cX10_beeps 24 = .ok (.iload_n 1, 1) := by decide +kernel
theorem dX10_beeps_25 : decode cX10_beeps 25 = .ok (.iload_n 2, 1) := by decide +kernel
theorem dX10_beeps_26 : decode cX10_beeps 26 = .ok (.invokevirtual 164, 3) := by decide +kernel
theorem dX10_beeps_29 : decode cX10_beeps 29 = .ok (.ifCond .eq 7, 3) := by decide +kernel
theorem dX10_beeps_32 : decode cX10_beeps 32 = .ok (.iconst 1, 1) := by decide +kernel
theorem dX10_beeps_33 : decode cX10_beeps 33 = .ok (.goto 4, 3) := by decide +kernel
theorem dX10_beeps_36 : decode cX10_beeps 36 = .ok (.iconst 0, 1) := by decide +kernel
theorem dX10_beeps_37 : decode cX10_beeps 37 = .ok (.ireturn, 1) := by decide +kernel
theorem dX10_heard_0 : decode cX10_heard 0 = .ok (.iload_n 1, 1) := by decide +kernel
theorem dX10_heard_1 : decode cX10_heard 1 = .ok (.invokestatic 55, 3) := by decide +kernel
theorem dX10_heard_4 : decode cX10_heard 4 = .ok (.ifCond .eq 10, 3) := by decide +kernel
theorem dX10_heard_7 : decode cX10_heard 7 = .ok (.iload_n 2, 1) := by decide +kernel
theorem dX10_heard_8 : decode cX10_heard 8 = .ok (.invokestatic 161, 3) := by decide +kernel
theorem dX10_heard_11 : decode cX10_heard 11 = .ok (.ifCond .ne 8, 3) := by decide +kernel
theorem dX10_heard_14 : decode cX10_heard 14 = .ok (.aload_n 0, 1) := by decide +kernel
theorem dX10_heard_15 : decode cX10_heard 15 = .ok (.invokevirtual 74, 3) := by decide +kernel
theorem dX10_heard_18 : decode cX10_heard 18 = .ok (.ireturn, 1) := by decide +kernel
theorem dX10_heard_19 : decode cX10_heard 19 = .ok (.aload_n 0, 1) := by decide +kernel
theorem dX10_heard_20 : decode cX10_heard 20 = .ok (.getfield 26, 3) := by decide +kernel
theorem dX10_heard_23 : decode cX10_heard 23 = .ok (.iload_n 1, 1) := by decide +kernel
theorem dX10_heard_24 : decode cX10_heard 24 = .ok (.iload_n 2, 1) := by decide +kernel
theorem dX10_heard_25 : decode cX10_heard 25 = .ok (.invokevirtual 114, 3) := by decide +kernel
theorem dX10_heard_28 : decode cX10_heard 28 = .ok (.ireturn, 1) := by decide +kernel
theorem dX10_through_0 : decode cX10_through 0 = .ok (.iload_n 1, 1) := by decide +kernel
theorem dX10_through_1 : decode cX10_through 1 = .ok (.invokestatic 55, 3) := by decide +kernel
theorem dX10_through_4 : decode cX10_through 4 = .ok (.ifCond .eq 11, 3) := by decide +kernel
theorem dX10_through_7 : decode cX10_through 7 = .ok (.aload_n 0, 1) := by decide +kernel
theorem dX10_through_8 : decode cX10_through 8 = .ok (.iload_n 2, 1) := by decide +kernel
theorem dX10_through_9 : decode cX10_through 9 = .ok (.invokevirtual 123, 3) := by decide +kernel
theorem dX10_through_12 : decode cX10_through 12 = .ok (.ifCond .ne 8, 3) := by decide +kernel
theorem dX10_through_15 : decode cX10_through 15 = .ok (.aload_n 0, 1) := by decide +kernel
theorem dX10_through_16 : decode cX10_through 16 = .ok (.invokevirtual 74, 3) := by decide +kernel
theorem dX10_through_19 : decode cX10_through 19 = .ok (.ireturn, 1) := by decide +kernel
theorem dX10_through_20 : decode cX10_through 20 = .ok (.aload_n 0, 1) := by decide +kernel
theorem dX10_through_21 : decode cX10_through 21 = .ok (.getfield 26, 3) := by decide +kernel
theorem dX10_through_24 : decode cX10_through 24 = .ok (.iload_n 1, 1) := by decide +kernel
theorem dX10_through_25 : decode cX10_through 25 = .ok (.iload_n 2, 1) := by decide +kernel
theorem dX10_through_26 : decode cX10_through 26 = .ok (.invokevirtual 168, 3) := by decide +kernel
theorem dX10_through_29 : decode cX10_through 29 = .ok (.ireturn, 1) := by decide +kernel
theorem dX10_next_0 : decode cX10_next 0 = .ok (.iload_n 2, 1) := by decide +kernel
theorem dX10_next_1 : decode cX10_next 1 = .ok (.iconst 0, 1) := by decide +kernel
theorem dX10_next_2 : decode cX10_next 2 = .ok (.iconst 1, 1) := by decide +kernel
theorem dX10_next_3 : decode cX10_next 3 = .ok (.invokestatic 59, 3) := by decide +kernel
theorem dX10_next_6 : decode cX10_next 6 = .ok (.ifCond .eq 25, 3) := by decide +kernel
theorem dX10_next_9 : decode cX10_next 9 = .ok (.iload_n 2, 1) := by decide +kernel
theorem dX10_next_10 : decode cX10_next 10 = .ok (.ifCond .ne 13, 3) := by decide +kernel
theorem dX10_next_13 : decode cX10_next 13 = .ok (.iload_n 1, 1) := by decide +kernel
theorem dX10_next_14 : decode cX10_next 14 = .ok (.invokestatic 55, 3) := by decide +kernel
theorem dX10_next_17 : decode cX10_next 17 = .ok (.ifCond .eq 14, 3) := by decide +kernel
theorem dX10_next_20 : decode cX10_next 20 = .ok (.goto 16, 3) := by decide +kernel
theorem dX10_next_23 : decode cX10_next 23 = .ok (.aload_n 0, 1) := by decide +kernel
theorem dX10_next_24 : decode cX10_next 24 = .ok (.iload_n 1, 1) := by decide +kernel
theorem dX10_next_25 : decode cX10_next 25 = .ok (.invokevirtual 123, 3) := by decide +kernel
theorem dX10_next_28 : decode cX10_next 28 = .ok (.ifCond .ne 8, 3) := by decide +kernel
theorem dX10_next_31 : decode cX10_next 31 = .ok (.aload_n 0, 1) := by decide +kernel
theorem dX10_next_32 : decode cX10_next 32 = .ok (.invokevirtual 74, 3) := by decide +kernel
theorem dX10_next_35 : decode cX10_next 35 = .ok (.ireturn, 1) := by decide +kernel
theorem dX10_next_36 : decode cX10_next 36 = .ok (.iconst 0, 1) := by decide +kernel
theorem dX10_next_37 : decode cX10_next 37 = .ok (.istore_n 3, 1) := by decide +kernel
theorem dX10_next_38 : decode cX10_next 38 = .ok (.iload_n 3, 1) := by decide +kernel
theorem dX10_next_39 : decode cX10_next 39 = .ok (.bipush 120, 2) := by decide +kernel
theorem dX10_next_41 : decode cX10_next 41 = .ok (.if_icmp .gt 58, 3) := by decide +kernel
theorem dX10_next_44 : decode cX10_next 44 = .ok (.aload_n 0, 1) := by decide +kernel
theorem dX10_next_45 : decode cX10_next 45 = .ok (.getfield 26, 3) := by decide +kernel
theorem dX10_next_48 : decode cX10_next 48 = .ok (.getfield 102, 3) := by decide +kernel
theorem dX10_next_51 : decode cX10_next 51 = .ok (.getfield 111, 3) := by decide +kernel
theorem dX10_next_54 : decode cX10_next 54 = .ok (.iload_n 3, 1) := by decide +kernel
theorem dX10_next_55 : decode cX10_next 55 = .ok (.iadd, 1) := by decide +kernel
theorem dX10_next_56 : decode cX10_next 56 = .ok (.istore 4, 2) := by decide +kernel
theorem dX10_next_58 : decode cX10_next 58 = .ok (.iload_n 2, 1) := by decide +kernel
theorem dX10_next_59 : decode cX10_next 59 = .ok (.ifCond .ne 19, 3) := by decide +kernel
theorem dX10_next_62 : decode cX10_next 62 = .ok (.aload_n 0, 1) := by decide +kernel
theorem dX10_next_63 : decode cX10_next 63 = .ok (.getfield 26, 3) := by decide +kernel
theorem dX10_next_66 : decode cX10_next 66 = .ok (.iload_n 1, 1) := by decide +kernel
theorem dX10_next_67 : decode cX10_next 67 = .ok (.iload 4, 2) := by decide +kernel
theorem dX10_next_69 : decode cX10_next 69 = .ok (.invokevirtual 114, 3) := by decide +kernel
theorem dX10_next_72 : decode cX10_next 72 = .ok (.ifCond .eq 21, 3) := by decide +kernel
theorem dX10_next_75 : decode cX10_next 75 = .ok (.goto 16, 3) := by decide +kernel
theorem dX10_next_78 : decode cX10_next 78 = .ok (.aload_n 0, 1) := by decide +kernel
theorem dX10_next_79 : decode cX10_next 79 = .ok (.getfield 26, 3) := by decide +kernel
theorem dX10_next_82 : decode cX10_next 82 = .ok (.iload_n 1, 1) := by decide +kernel
theorem dX10_next_83 : decode cX10_next 83 = .ok (.iload 4, 2) := by decide +kernel
theorem dX10_next_85 : decode cX10_next 85 = .ok (.invokevirtual 164, 3) := by decide +kernel
theorem dX10_next_88 : decode cX10_next 88 = .ok (.ifCond .eq 5, 3) := by decide +kernel
theorem dX10_next_91 : decode cX10_next 91 = .ok (.iload_n 3, 1) := by decide +kernel
theorem dX10_next_92 : decode cX10_next 92 = .ok (.ireturn, 1) := by decide +kernel
theorem dX10_next_93 : decode cX10_next 93 = .ok (.iinc 3 1, 3) := by decide +kernel
theorem dX10_next_96 : decode cX10_next 96 = .ok (.goto (-58), 3) := by decide +kernel
theorem dX10_next_99 : decode cX10_next 99 = .ok (.iconst (-1), 1) := by decide +kernel
theorem dX10_next_100 : decode cX10_next 100 = .ok (.ireturn, 1) := by decide +kernel
theorem dX10_coldest_0 : decode cX10_coldest 0 = .ok (.aload_n 0, 1) := by decide +kernel
theorem dX10_coldest_1 : decode cX10_coldest 1 = .ok (.iload_n 1, 1) := by decide +kernel
theorem dX10_coldest_2 : decode cX10_coldest 2 = .ok (.invokevirtual 123, 3) := by decide +kernel
theorem dX10_coldest_5 : decode cX10_coldest 5 = .ok (.ifCond .ne 8, 3) := by decide +kernel
theorem dX10_coldest_8 : decode cX10_coldest 8 = .ok (.aload_n 0, 1) := by decide +kernel
theorem dX10_coldest_9 : decode cX10_coldest 9 = .ok (.invokevirtual 74, 3) := by decide +kernel
theorem dX10_coldest_12 : decode cX10_coldest 12 = .ok (.ireturn, 1) := by decide +kernel
theorem dX10_coldest_13 : decode cX10_coldest 13 = .ok (.iconst 0, 1) := by decide +kernel
theorem dX10_coldest_14 : decode cX10_coldest 14 = .ok (.istore_n 2, 1) := by decide +kernel
theorem dX10_coldest_15 : decode cX10_coldest 15 = .ok (.iload_n 2, 1) := by decide +kernel
theorem dX10_coldest_16 : decode cX10_coldest 16 = .ok (.bipush 9, 2) := by decide +kernel
theorem dX10_coldest_18 : decode cX10_coldest 18 = .ok (.if_icmp .gt 38, 3) := by decide +kernel
theorem dX10_coldest_21 : decode cX10_coldest 21 = .ok (.aload_n 0, 1) := by decide +kernel
theorem dX10_coldest_22 : decode cX10_coldest 22 = .ok (.getfield 26, 3) := by decide +kernel
theorem dX10_coldest_25 : decode cX10_coldest 25 = .ok (.iload_n 1, 1) := by decide +kernel
theorem dX10_coldest_26 : decode cX10_coldest 26 = .ok (.invokevirtual 152, 3) := by decide +kernel
theorem dX10_coldest_29 : decode cX10_coldest 29 = .ok (.iload_n 2, 1) := by decide +kernel
theorem dX10_coldest_30 : decode cX10_coldest 30 = .ok (.aload_n 0, 1) := by decide +kernel
theorem dX10_coldest_31 : decode cX10_coldest 31 = .ok (.getfield 26, 3) := by decide +kernel
theorem dX10_coldest_34 : decode cX10_coldest 34 = .ok (.getfield 102, 3) := by decide +kernel
theorem dX10_coldest_37 : decode cX10_coldest 37 = .ok (.getfield 134, 3) := by decide +kernel
theorem dX10_coldest_40 : decode cX10_coldest 40 = .ok (.iload_n 1, 1) := by decide +kernel
theorem dX10_coldest_41 : decode cX10_coldest 41 = .ok (.iaload, 1) := by decide +kernel
theorem dX10_coldest_42 : decode cX10_coldest 42 = .ok (.invokevirtual 171, 3) := by decide +kernel
theorem dX10_coldest_45 : decode cX10_coldest 45 = .ok (.ifCond .eq 5, 3) := by decide +kernel
theorem dX10_coldest_48 : decode cX10_coldest 48 = .ok (.iload_n 2, 1) := by decide +kernel
theorem dX10_coldest_49 : decode cX10_coldest 49 = .ok (.ireturn, 1) := by decide +kernel
theorem dX10_coldest_50 : decode cX10_coldest 50 = .ok (.iinc 2 1, 3) := by decide +kernel
theorem dX10_coldest_53 : decode cX10_coldest 53 = .ok (.goto (-38), 3) := by decide +kernel
theorem dX10_coldest_56 : decode cX10_coldest 56 = .ok (.iconst (-1), 1) := by decide +kernel
theorem dX10_coldest_57 : decode cX10_coldest 57 = .ok (.ireturn, 1) := by decide +kernel
theorem dX10_sure_0 : decode cX10_sure 0 = .ok (.iload_n 1, 1) := by decide +kernel
theorem dX10_sure_1 : decode cX10_sure 1 = .ok (.iconst 1, 1) := by decide +kernel
theorem dX10_sure_2 : decode cX10_sure 2 = .ok (.aload_n 0, 1) := by decide +kernel
theorem dX10_sure_3 : decode cX10_sure 3 = .ok (.getfield 26, 3) := by decide +kernel
theorem dX10_sure_6 : decode cX10_sure 6 = .ok (.invokevirtual 174, 3) := by decide +kernel
theorem dX10_sure_9 : decode cX10_sure 9 = .ok (.invokestatic 59, 3) := by decide +kernel
theorem dX10_sure_12 : decode cX10_sure 12 = .ok (.ifCond .eq 12, 3) := by decide +kernel
theorem dX10_sure_15 : decode cX10_sure 15 = .ok (.iload_n 2, 1) := by decide +kernel
theorem dX10_sure_16 : decode cX10_sure 16 = .ok (.iconst 0, 1) := by decide +kernel
theorem dX10_sure_17 : decode cX10_sure 17 = .ok (.iconst 1, 1) := by decide +kernel
theorem dX10_sure_18 : decode cX10_sure 18 = .ok (.invokestatic 59, 3) := by decide +kernel
theorem dX10_sure_21 : decode cX10_sure 21 = .ok (.ifCond .ne 8, 3) := by decide +kernel
theorem dX10_sure_24 : decode cX10_sure 24 = .ok (.aload_n 0, 1) := by decide +kernel
theorem dX10_sure_25 : decode cX10_sure 25 = .ok (.invokevirtual 74, 3) := by decide +kernel
theorem dX10_sure_28 : decode cX10_sure 28 = .ok (.ireturn, 1) := by decide +kernel
theorem dX10_sure_29 : decode cX10_sure 29 = .ok (.aload_n 0, 1) := by decide +kernel
theorem dX10_sure_30 : decode cX10_sure 30 = .ok (.getfield 19, 3) := by decide +kernel
theorem dX10_sure_33 : decode cX10_sure 33 = .ok (.aload_n 0, 1) := by decide +kernel
theorem dX10_sure_34 : decode cX10_sure 34 = .ok (.getfield 26, 3) := by decide +kernel
theorem dX10_sure_37 : decode cX10_sure 37 = .ok (.invokevirtual 177, 3) := by decide +kernel
theorem dX10_sure_40 : decode cX10_sure 40 = .ok (.aload_n 0, 1) := by decide +kernel
theorem dX10_sure_41 : decode cX10_sure 41 = .ok (.getfield 19, 3) := by decide +kernel
theorem dX10_sure_44 : decode cX10_sure 44 = .ok (.iload_n 1, 1) := by decide +kernel
theorem dX10_sure_45 : decode cX10_sure 45 = .ok (.invokevirtual 181, 3) := by decide +kernel
theorem dX10_sure_48 : decode cX10_sure 48 = .ok (.aload_n 0, 1) := by decide +kernel
theorem dX10_sure_49 : decode cX10_sure 49 = .ok (.getfield 19, 3) := by decide +kernel
theorem dX10_sure_52 : decode cX10_sure 52 = .ok (.getfield 184, 3) := by decide +kernel
theorem dX10_sure_55 : decode cX10_sure 55 = .ok (.iload_n 1, 1) := by decide +kernel
theorem dX10_sure_56 : decode cX10_sure 56 = .ok (.iaload, 1) := by decide +kernel
theorem dX10_sure_57 : decode cX10_sure 57 = .ok (.bipush 100, 2) := by decide +kernel
theorem dX10_sure_59 : decode cX10_sure 59 = .ok (.if_icmp .lt 5, 3) := by decide +kernel
theorem dX10_sure_62 : decode cX10_sure 62 = .ok (.iconst (-1), 1) := by decide +kernel
theorem dX10_sure_63 : decode cX10_sure 63 = .ok (.ireturn, 1) := by decide +kernel
theorem dX10_sure_64 : decode cX10_sure 64 = .ok (.iload_n 2, 1) := by decide +kernel
theorem dX10_sure_65 : decode cX10_sure 65 = .ok (.ifCond .ne 15, 3) := by decide +kernel
theorem dX10_sure_68 : decode cX10_sure 68 = .ok (.aload_n 0, 1) := by decide +kernel
theorem dX10_sure_69 : decode cX10_sure 69 = .ok (.getfield 19, 3) := by decide +kernel
theorem dX10_sure_72 : decode cX10_sure 72 = .ok (.getfield 184, 3) := by decide +kernel
theorem dX10_sure_75 : decode cX10_sure 75 = .ok (.iload_n 1, 1) := by decide +kernel
theorem dX10_sure_76 : decode cX10_sure 76 = .ok (.iaload, 1) := by decide +kernel
theorem dX10_sure_77 : decode cX10_sure 77 = .ok (.goto 12, 3) := by decide +kernel
theorem dX10_sure_80 : decode cX10_sure 80 = .ok (.aload_n 0, 1) := by decide +kernel
theorem dX10_sure_81 : decode cX10_sure 81 = .ok (.getfield 19, 3) := by decide +kernel
theorem dX10_sure_84 : decode cX10_sure 84 = .ok (.getfield 187, 3) := by decide +kernel
theorem dX10_sure_87 : decode cX10_sure 87 = .ok (.iload_n 1, 1) := by decide +kernel
theorem dX10_sure_88 : decode cX10_sure 88 = .ok (.iaload, 1) := by decide +kernel
theorem dX10_sure_89 : decode cX10_sure 89 = .ok (.ireturn, 1) := by decide +kernel
theorem dX10_way_0 : decode cX10_way 0 = .ok (.iload_n 1, 1) := by decide +kernel
theorem dX10_way_1 : decode cX10_way 1 = .ok (.iconst (-1), 1) := by decide +kernel
theorem dX10_way_2 : decode cX10_way 2 = .ok (.if_icmp .ge 16, 3) := by decide +kernel
theorem dX10_way_5 : decode cX10_way 5 = .ok (.aload_n 0, 1) := by decide +kernel
theorem dX10_way_6 : decode cX10_way 6 = .ok (.dup, 1) := by decide +kernel
theorem dX10_way_7 : decode cX10_way 7 = .ok (.getfield 63, 3) := by decide +kernel
theorem dX10_way_10 : decode cX10_way 10 = .ok (.iconst 1, 1) := by decide +kernel
theorem dX10_way_11 : decode cX10_way 11 = .ok (.iadd, 1) := by decide +kernel
theorem dX10_way_12 : decode cX10_way 12 = .ok (.putfield 63, 3) := by decide +kernel
theorem dX10_way_15 : decode cX10_way 15 = .ok (.bipush (-10), 2) := by decide +kernel
theorem dX10_way_17 : decode cX10_way 17 = .ok (.ireturn, 1) := by decide +kernel
theorem dX10_way_18 : decode cX10_way 18 = .ok (.aload_n 0, 1) := by decide +kernel
theorem dX10_way_19 : decode cX10_way 19 = .ok (.getfield 19, 3) := by decide +kernel
theorem dX10_way_22 : decode cX10_way 22 = .ok (.aload_n 0, 1) := by decide +kernel
theorem dX10_way_23 : decode cX10_way 23 = .ok (.getfield 26, 3) := by decide +kernel
theorem dX10_way_26 : decode cX10_way 26 = .ok (.invokevirtual 190, 3) := by decide +kernel
theorem dX10_way_29 : decode cX10_way 29 = .ok (.aload_n 0, 1) := by decide +kernel
theorem dX10_way_30 : decode cX10_way 30 = .ok (.getfield 19, 3) := by decide +kernel
theorem dX10_way_33 : decode cX10_way 33 = .ok (.aload_n 0, 1) := by decide +kernel
theorem dX10_way_34 : decode cX10_way 34 = .ok (.getfield 26, 3) := by decide +kernel
theorem dX10_way_37 : decode cX10_way 37 = .ok (.invokevirtual 193, 3) := by decide +kernel
theorem dX10_way_40 : decode cX10_way 40 = .ok (.aload_n 0, 1) := by decide +kernel
theorem dX10_way_41 : decode cX10_way 41 = .ok (.getfield 19, 3) := by decide +kernel
theorem dX10_way_44 : decode cX10_way 44 = .ok (.invokevirtual 196, 3) := by decide +kernel
theorem dX10_way_47 : decode cX10_way 47 = .ok (.ifCond .ne 5, 3) := by decide +kernel
theorem dX10_way_50 : decode cX10_way 50 = .ok (.iconst (-1), 1) := by decide +kernel
theorem dX10_way_51 : decode cX10_way 51 = .ok (.ireturn, 1) := by decide +kernel
theorem dX10_way_52 : decode cX10_way 52 = .ok (.aload_n 0, 1) := by decide +kernel
theorem dX10_way_53 : decode cX10_way 53 = .ok (.getfield 19, 3) := by decide +kernel
theorem dX10_way_56 : decode cX10_way 56 = .ok (.invokevirtual 200, 3) := by decide +kernel
theorem dX10_way_59 : decode cX10_way 59 = .ok (.iload_n 1, 1) := by decide +kernel
theorem dX10_way_60 : decode cX10_way 60 = .ok (.iconst (-1), 1) := by decide +kernel
theorem dX10_way_61 : decode cX10_way 61 = .ok (.if_icmp .ne 11, 3) := by decide +kernel
theorem dX10_way_64 : decode cX10_way 64 = .ok (.aload_n 0, 1) := by decide +kernel
theorem dX10_way_65 : decode cX10_way 65 = .ok (.getfield 19, 3) := by decide +kernel
theorem dX10_way_68 : decode cX10_way 68 = .ok (.invokevirtual 203, 3) := by decide +kernel
theorem dX10_way_71 : decode cX10_way 71 = .ok (.ireturn, 1) := by decide +kernel
theorem dX10_way_72 : decode cX10_way 72 = .ok (.iload_n 1, 1) := by decide +kernel
theorem dX10_way_73 : decode cX10_way 73 = .ok (.aload_n 0, 1) := by decide +kernel
theorem dX10_way_74 : decode cX10_way 74 = .ok (.getfield 19, 3) := by decide +kernel
theorem dX10_way_77 : decode cX10_way 77 = .ok (.getfield 206, 3) := by decide +kernel
theorem dX10_way_80 : decode cX10_way 80 = .ok (.if_icmp .lt 8, 3) := by decide +kernel
theorem dX10_way_83 : decode cX10_way 83 = .ok (.bipush (-5), 2) := by decide +kernel
theorem dX10_way_85 : decode cX10_way 85 = .ok (.goto 11, 3) := by decide +kernel
theorem dX10_way_88 : decode cX10_way 88 = .ok (.aload_n 0, 1) := by decide +kernel
theorem dX10_way_89 : decode cX10_way 89 = .ok (.getfield 19, 3) := by decide +kernel
theorem dX10_way_92 : decode cX10_way 92 = .ok (.iload_n 1, 1) := by decide +kernel
theorem dX10_way_93 : decode cX10_way 93 = .ok (.invokevirtual 209, 3) := by decide +kernel
theorem dX10_way_96 : decode cX10_way 96 = .ok (.ireturn, 1) := by decide +kernel
theorem dX10_two_0 : decode cX10_two 0 = .ok (.iload_n 1, 1) := by decide +kernel
theorem dX10_two_1 : decode cX10_two 1 = .ok (.invokestatic 55, 3) := by decide +kernel
theorem dX10_two_4 : decode cX10_two 4 = .ok (.ifCond .eq 10, 3) := by decide +kernel
theorem dX10_two_7 : decode cX10_two 7 = .ok (.iload_n 2, 1) := by decide +kernel
theorem dX10_two_8 : decode cX10_two 8 = .ok (.invokestatic 55, 3) := by decide +kernel
theorem dX10_two_11 : decode cX10_two 11 = .ok (.ifCond .ne 8, 3) := by decide +kernel
theorem dX10_two_14 : decode cX10_two 14 = .ok (.aload_n 0, 1) := by decide +kernel
theorem dX10_two_15 : decode cX10_two 15 = .ok (.invokevirtual 74, 3) := by decide +kernel
theorem dX10_two_18 : decode cX10_two 18 = .ok (.ireturn, 1) := by decide +kernel
theorem dX10_two_19 : decode cX10_two 19 = .ok (.iconst 0, 1) := by decide +kernel
theorem dX10_two_20 : decode cX10_two 20 = .ok (.istore_n 3, 1) := by decide +kernel
theorem dX10_two_21 : decode cX10_two 21 = .ok (.iconst 1, 1) := by decide +kernel
theorem dX10_two_22 : decode cX10_two 22 = .ok (.istore 4, 2) := by decide +kernel
theorem dX10_two_24 : decode cX10_two 24 = .ok (.iload 4, 2) := by decide +kernel
theorem dX10_two_26 : decode cX10_two 26 = .ok (.aload_n 0, 1) := by decide +kernel
theorem dX10_two_27 : decode cX10_two 27 = .ok (.getfield 26, 3) := by decide +kernel
theorem dX10_two_30 : decode cX10_two 30 = .ok (.getfield 48, 3) := by decide +kernel
theorem dX10_two_33 : decode cX10_two 33 = .ok (.if_icmp .ge 58, 3) := by decide +kernel
theorem dX10_two_36 : decode cX10_two 36 = .ok (.iconst 0, 1) := by decide +kernel
theorem dX10_two_37 : decode cX10_two 37 = .ok (.istore 5, 2) := by decide +kernel
theorem dX10_two_39 : decode cX10_two 39 = .ok (.iload 5, 2) := by decide +kernel
theorem dX10_two_41 : decode cX10_two 41 = .ok (.iload 4, 2) := by decide +kernel
theorem dX10_two_43 : decode cX10_two 43 = .ok (.if_icmp .ge 42, 3) := by decide +kernel
theorem dX10_two_46 : decode cX10_two 46 = .ok (.aload_n 0, 1) := by decide +kernel
theorem dX10_two_47 : decode cX10_two 47 = .ok (.getfield 26, 3) := by decide +kernel
theorem dX10_two_50 : decode cX10_two 50 = .ok (.iload_n 1, 1) := by decide +kernel
theorem dX10_two_51 : decode cX10_two 51 = .ok (.iload 5, 2) := by decide +kernel
theorem dX10_two_53 : decode cX10_two 53 = .ok (.iload 4, 2) := by decide +kernel
theorem dX10_two_55 : decode cX10_two 55 = .ok (.invokevirtual 213, 3) := by decide +kernel
theorem dX10_two_58 : decode cX10_two 58 = .ok (.ifCond .ne 18, 3) := by decide +kernel
theorem dX10_two_61 : decode cX10_two 61 = .ok (.aload_n 0, 1) := by decide +kernel
theorem dX10_two_62 : decode cX10_two 62 = .ok (.getfield 26, 3) := by decide +kernel
theorem dX10_two_65 : decode cX10_two 65 = .ok (.iload_n 2, 1) := by decide +kernel
theorem dX10_two_66 : decode cX10_two 66 = .ok (.iload 5, 2) := by decide +kernel
theorem dX10_two_68 : decode cX10_two 68 = .ok (.iload 4, 2) := by decide +kernel
theorem dX10_two_70 : decode cX10_two 70 = .ok (.invokevirtual 213, 3) := by decide +kernel
theorem dX10_two_73 : decode cX10_two 73 = .ok (.ifCond .eq 6, 3) := by decide +kernel
theorem dX10_two_76 : decode cX10_two 76 = .ok (.iinc 3 1, 3) := by decide +kernel
theorem dX10_two_79 : decode cX10_two 79 = .ok (.iinc 5 1, 3) := by decide +kernel
theorem dX10_two_82 : decode cX10_two 82 = .ok (.goto (-43), 3) := by decide +kernel
theorem dX10_two_85 : decode cX10_two 85 = .ok (.iinc 4 1, 3) := by decide +kernel
theorem dX10_two_88 : decode cX10_two 88 = .ok (.goto (-64), 3) := by decide +kernel
theorem dX10_two_91 : decode cX10_two 91 = .ok (.iload_n 3, 1) := by decide +kernel
theorem dX10_two_92 : decode cX10_two 92 = .ok (.ireturn, 1) := by decide +kernel
theorem dX10_beside_0 : decode cX10_beside 0 = .ok (.iconst 0, 1) := by decide +kernel
theorem dX10_beside_1 : decode cX10_beside 1 = .ok (.istore_n 1, 1) := by decide +kernel
theorem dX10_beside_2 : decode cX10_beside 2 = .ok (.aload_n 0, 1) := by decide +kernel
theorem dX10_beside_3 : decode cX10_beside 3 = .ok (.getfield 26, 3) := by decide +kernel
theorem dX10_beside_6 : decode cX10_beside 6 = .ok (.iconst 0, 1) := by decide +kernel
theorem dX10_beside_7 : decode cX10_beside 7 = .ok (.invokevirtual 216, 3) := by decide +kernel
theorem dX10_beside_10 : decode cX10_beside 10 = .ok (.istore_n 2, 1) := by decide +kernel
theorem dX10_beside_11 : decode cX10_beside 11 = .ok (.iconst 1, 1) := by decide +kernel
theorem dX10_beside_12 : decode cX10_beside 12 = .ok (.istore_n 3, 1) := by decide +kernel
theorem dX10_beside_13 : decode cX10_beside 13 = .ok (.iload_n 3, 1) := by decide +kernel
theorem dX10_beside_14 : decode cX10_beside 14 = .ok (.bipush 8, 2) := by decide +kernel
theorem dX10_beside_16 : decode cX10_beside 16 = .ok (.if_icmp .ge 30, 3) := by decide +kernel
theorem dX10_beside_19 : decode cX10_beside 19 = .ok (.aload_n 0, 1) := by decide +kernel
theorem dX10_beside_20 : decode cX10_beside 20 = .ok (.getfield 26, 3) := by decide +kernel
theorem dX10_beside_23 : decode cX10_beside 23 = .ok (.iload_n 3, 1) := by decide +kernel
theorem dX10_beside_24 : decode cX10_beside 24 = .ok (.invokevirtual 216, 3) := by decide +kernel
theorem dX10_beside_27 : decode cX10_beside 27 = .ok (.istore 4, 2) := by decide +kernel
theorem dX10_beside_29 : decode cX10_beside 29 = .ok (.iload 4, 2) := by decide +kernel
theorem dX10_beside_31 : decode cX10_beside 31 = .ok (.iload_n 2, 1) := by decide +kernel
theorem dX10_beside_32 : decode cX10_beside 32 = .ok (.if_icmp .le 8, 3) := by decide +kernel
theorem dX10_beside_35 : decode cX10_beside 35 = .ok (.iload_n 3, 1) := by decide +kernel
theorem dX10_beside_36 : decode cX10_beside 36 = .ok (.istore_n 1, 1) := by decide +kernel
theorem dX10_beside_37 : decode cX10_beside 37 = .ok (.iload 4, 2) := by decide +kernel
theorem dX10_beside_39 : decode cX10_beside 39 = .ok (.istore_n 2, 1) := by decide +kernel
theorem dX10_beside_40 : decode cX10_beside 40 = .ok (.iinc 3 1, 3) := by decide +kernel
theorem dX10_beside_43 : decode cX10_beside 43 = .ok (.goto (-30), 3) := by decide +kernel
theorem dX10_beside_46 : decode cX10_beside 46 = .ok (.iload_n 1, 1) := by decide +kernel
theorem dX10_beside_47 : decode cX10_beside 47 = .ok (.ireturn, 1) := by decide +kernel
theorem dX10_note_0 : decode cX10_note 0 = .ok (.iload_n 1, 1) := by decide +kernel
theorem dX10_note_1 : decode cX10_note 1 = .ok (.invokestatic 55, 3) := by decide +kernel
theorem dX10_note_4 : decode cX10_note 4 = .ok (.ifCond .eq 13, 3) := by decide +kernel
theorem dX10_note_7 : decode cX10_note 7 = .ok (.iload_n 2, 1) := by decide +kernel
theorem dX10_note_8 : decode cX10_note 8 = .ok (.iconst (-1), 1) := by decide +kernel
theorem dX10_note_9 : decode cX10_note 9 = .ok (.bipush 7, 2) := by decide +kernel
theorem dX10_note_11 : decode cX10_note 11 = .ok (.invokestatic 59, 3) := by decide +kernel
theorem dX10_note_14 : decode cX10_note 14 = .ok (.ifCond .ne 8, 3) := by decide +kernel
theorem dX10_note_17 : decode cX10_note 17 = .ok (.aload_n 0, 1) := by decide +kernel
theorem dX10_note_18 : decode cX10_note 18 = .ok (.invokevirtual 74, 3) := by decide +kernel
theorem dX10_note_21 : decode cX10_note 21 = .ok (.ireturn, 1) := by decide +kernel
theorem dX10_note_22 : decode cX10_note 22 = .ok (.aload_n 0, 1) := by decide +kernel
theorem dX10_note_23 : decode cX10_note 23 = .ok (.getfield 26, 3) := by decide +kernel
theorem dX10_note_26 : decode cX10_note 26 = .ok (.getfield 219, 3) := by decide +kernel
theorem dX10_note_29 : decode cX10_note 29 = .ok (.bipush 6, 2) := by decide +kernel
theorem dX10_note_31 : decode cX10_note 31 = .ok (.if_icmp .lt 8, 3) := by decide +kernel
theorem dX10_note_34 : decode cX10_note 34 = .ok (.aload_n 0, 1) := by decide +kernel
theorem dX10_note_35 : decode cX10_note 35 = .ok (.invokevirtual 78, 3) := by decide +kernel
theorem dX10_note_38 : decode cX10_note 38 = .ok (.ireturn, 1) := by decide +kernel
theorem dX10_note_39 : decode cX10_note 39 = .ok (.aload_n 0, 1) := by decide +kernel
theorem dX10_note_40 : decode cX10_note 40 = .ok (.getfield 26, 3) := by decide +kernel
theorem dX10_note_43 : decode cX10_note 43 = .ok (.iload_n 1, 1) := by decide +kernel
theorem dX10_note_44 : decode cX10_note 44 = .ok (.iload_n 2, 1) := by decide +kernel
theorem dX10_note_45 : decode cX10_note 45 = .ok (.invokevirtual 222, 3) := by decide +kernel
theorem dX10_note_48 : decode cX10_note 48 = .ok (.aload_n 0, 1) := by decide +kernel
theorem dX10_note_49 : decode cX10_note 49 = .ok (.getfield 26, 3) := by decide +kernel
theorem dX10_note_52 : decode cX10_note 52 = .ok (.getfield 219, 3) := by decide +kernel
theorem dX10_note_55 : decode cX10_note 55 = .ok (.ireturn, 1) := by decide +kernel
theorem dX10_forget_0 : decode cX10_forget 0 = .ok (.aload_n 0, 1) := by decide +kernel
theorem dX10_forget_1 : decode cX10_forget 1 = .ok (.getfield 26, 3) := by decide +kernel
theorem dX10_forget_4 : decode cX10_forget 4 = .ok (.getfield 219, 3) := by decide +kernel
theorem dX10_forget_7 : decode cX10_forget 7 = .ok (.istore_n 1, 1) := by decide +kernel
theorem dX10_forget_8 : decode cX10_forget 8 = .ok (.aload_n 0, 1) := by decide +kernel
theorem dX10_forget_9 : decode cX10_forget 9 = .ok (.getfield 26, 3) := by decide +kernel
theorem dX10_forget_12 : decode cX10_forget 12 = .ok (.iconst 0, 1) := by decide +kernel
theorem dX10_forget_13 : decode cX10_forget 13 = .ok (.putfield 219, 3) := by decide +kernel
theorem dX10_forget_16 : decode cX10_forget 16 = .ok (.iload_n 1, 1) := by decide +kernel
theorem dX10_forget_17 : decode cX10_forget 17 = .ok (.ireturn, 1) := by decide +kernel
theorem dX10_which_0 : decode cX10_which 0 = .ok (.aload_n 0, 1) := by decide +kernel
theorem dX10_which_1 : decode cX10_which 1 = .ok (.getfield 26, 3) := by decide +kernel
theorem dX10_which_4 : decode cX10_which 4 = .ok (.invokevirtual 225, 3) := by decide +kernel
theorem dX10_which_7 : decode cX10_which 7 = .ok (.ireturn, 1) := by decide +kernel
theorem dX10_stand_0 : decode cX10_stand 0 = .ok (.aload_n 0, 1) := by decide +kernel
theorem dX10_stand_1 : decode cX10_stand 1 = .ok (.getfield 26, 3) := by decide +kernel
theorem dX10_stand_4 : decode cX10_stand 4 = .ok (.invokevirtual 225, 3) := by decide +kernel
theorem dX10_stand_7 : decode cX10_stand 7 = .ok (.istore_n 1, 1) := by decide +kernel
theorem dX10_stand_8 : decode cX10_stand 8 = .ok (.iload_n 1, 1) := by decide +kernel
theorem dX10_stand_9 : decode cX10_stand 9 = .ok (.ifCond .ne 5, 3) := by decide +kernel
theorem dX10_stand_12 : decode cX10_stand 12 = .ok (.iconst (-1), 1) := by decide +kernel
theorem dX10_stand_13 : decode cX10_stand 13 = .ok (.ireturn, 1) := by decide +kernel
theorem dX10_stand_14 : decode cX10_stand 14 = .ok (.aload_n 0, 1) := by decide +kernel
theorem dX10_stand_15 : decode cX10_stand 15 = .ok (.getfield 19, 3) := by decide +kernel
theorem dX10_stand_18 : decode cX10_stand 18 = .ok (.aload_n 0, 1) := by decide +kernel
theorem dX10_stand_19 : decode cX10_stand 19 = .ok (.getfield 26, 3) := by decide +kernel
theorem dX10_stand_22 : decode cX10_stand 22 = .ok (.invokevirtual 177, 3) := by decide +kernel
theorem dX10_stand_25 : decode cX10_stand 25 = .ok (.aload_n 0, 1) := by decide +kernel
theorem dX10_stand_26 : decode cX10_stand 26 = .ok (.getfield 19, 3) := by decide +kernel
theorem dX10_stand_29 : decode cX10_stand 29 = .ok (.iload_n 1, 1) := by decide +kernel
theorem dX10_stand_30 : decode cX10_stand 30 = .ok (.invokevirtual 228, 3) := by decide +kernel
theorem dX10_stand_33 : decode cX10_stand 33 = .ok (.ireturn, 1) := by decide +kernel
theorem dX10_is_0 : decode cX10_is 0 = .ok (.aload_n 0, 1) := by decide +kernel
theorem dX10_is_1 : decode cX10_is 1 = .ok (.iload_n 1, 1) := by decide +kernel
theorem dX10_is_2 : decode cX10_is 2 = .ok (.invokevirtual 123, 3) := by decide +kernel
theorem dX10_is_5 : decode cX10_is 5 = .ok (.ifCond .eq 19, 3) := by decide +kernel
theorem dX10_is_8 : decode cX10_is 8 = .ok (.iload_n 2, 1) := by decide +kernel
theorem dX10_is_9 : decode cX10_is 9 = .ok (.invokestatic 161, 3) := by decide +kernel
theorem dX10_is_12 : decode cX10_is 12 = .ok (.ifCond .eq 12, 3) := by decide +kernel
theorem dX10_is_15 : decode cX10_is 15 = .ok (.iload_n 3, 1) := by decide +kernel
theorem dX10_is_16 : decode cX10_is 16 = .ok (.iconst 0, 1) := by decide +kernel
theorem dX10_is_17 : decode cX10_is 17 = .ok (.iconst 1, 1) := by decide +kernel
theorem dX10_is_18 : decode cX10_is 18 = .ok (.invokestatic 59, 3) := by decide +kernel
theorem dX10_is_21 : decode cX10_is 21 = .ok (.ifCond .ne 8, 3) := by decide +kernel
theorem dX10_is_24 : decode cX10_is 24 = .ok (.aload_n 0, 1) := by decide +kernel
theorem dX10_is_25 : decode cX10_is 25 = .ok (.invokevirtual 74, 3) := by decide +kernel
theorem dX10_is_28 : decode cX10_is 28 = .ok (.ireturn, 1) := by decide +kernel
theorem dX10_is_29 : decode cX10_is 29 = .ok (.iconst 0, 1) := by decide +kernel
theorem dX10_is_30 : decode cX10_is 30 = .ok (.istore 4, 2) := by decide +kernel
theorem dX10_is_32 : decode cX10_is 32 = .ok (.iconst 0, 1) := by decide +kernel
theorem dX10_is_33 : decode cX10_is 33 = .ok (.istore 5, 2) := by decide +kernel
theorem dX10_is_35 : decode cX10_is 35 = .ok (.iload 5, 2) := by decide +kernel
theorem dX10_is_37 : decode cX10_is 37 = .ok (.bipush 6, 2) := by decide +kernel
theorem dX10_is_39 : decode cX10_is 39 = .ok (.if_icmp .ge 67, 3) := by decide +kernel
theorem dX10_is_42 : decode cX10_is 42 = .ok (.aload_n 0, 1) := by decide +kernel
theorem dX10_is_43 : decode cX10_is 43 = .ok (.getfield 26, 3) := by decide +kernel
theorem dX10_is_46 : decode cX10_is 46 = .ok (.getfield 231, 3) := by decide +kernel
theorem dX10_is_49 : decode cX10_is 49 = .ok (.iload 5, 2) := by decide +kernel
theorem dX10_is_51 : decode cX10_is 51 = .ok (.aaload, 1) := by decide +kernel
theorem dX10_is_52 : decode cX10_is 52 = .ok (.iload_n 2, 1) := by decide +kernel
theorem dX10_is_53 : decode cX10_is 53 = .ok (.aload_n 0, 1) := by decide +kernel
theorem dX10_is_54 : decode cX10_is 54 = .ok (.getfield 26, 3) := by decide +kernel
theorem dX10_is_57 : decode cX10_is 57 = .ok (.getfield 102, 3) := by decide +kernel
theorem dX10_is_60 : decode cX10_is 60 = .ok (.getfield 137, 3) := by decide +kernel
theorem dX10_is_63 : decode cX10_is 63 = .ok (.aload_n 0, 1) := by decide +kernel
theorem dX10_is_64 : decode cX10_is 64 = .ok (.getfield 26, 3) := by decide +kernel
theorem dX10_is_67 : decode cX10_is 67 = .ok (.getfield 102, 3) := by decide +kernel
theorem dX10_is_70 : decode cX10_is 70 = .ok (.getfield 134, 3) := by decide +kernel
theorem dX10_is_73 : decode cX10_is 73 = .ok (.iload_n 1, 1) := by decide +kernel
theorem dX10_is_74 : decode cX10_is 74 = .ok (.iaload, 1) := by decide +kernel
theorem dX10_is_75 : decode cX10_is 75 = .ok (.invokevirtual 235, 3) := by decide +kernel
theorem dX10_is_78 : decode cX10_is 78 = .ok (.iload_n 3, 1) := by decide +kernel
theorem dX10_is_79 : decode cX10_is 79 = .ok (.iconst 1, 1) := by decide +kernel
theorem dX10_is_80 : decode cX10_is 80 = .ok (.if_icmp .ne 7, 3) := by decide +kernel
theorem dX10_is_83 : decode cX10_is 83 = .ok (.iconst 1, 1) := by decide +kernel
theorem dX10_is_84 : decode cX10_is 84 = .ok (.goto 4, 3) := by decide +kernel
theorem dX10_is_87 : decode cX10_is 87 = .ok (.iconst 0, 1) := by decide +kernel
theorem dX10_is_88 : decode cX10_is 88 = .ok (.if_icmp .ne 12, 3) := by decide +kernel
theorem dX10_is_91 : decode cX10_is 91 = .ok (.iload 4, 2) := by decide +kernel
theorem dX10_is_93 : decode cX10_is 93 = .ok (.iconst 1, 1) := by decide +kernel
theorem dX10_is_94 : decode cX10_is 94 = .ok (.iload 5, 2) := by decide +kernel
theorem dX10_is_96 : decode cX10_is 96 = .ok (.ishl, 1) := by decide +kernel
theorem dX10_is_97 : decode cX10_is 97 = .ok (.ior, 1) := by decide +kernel
theorem dX10_is_98 : decode cX10_is 98 = .ok (.istore 4, 2) := by decide +kernel
theorem dX10_is_100 : decode cX10_is 100 = .ok (.iinc 5 1, 3) := by decide +kernel
theorem dX10_is_103 : decode cX10_is 103 = .ok (.goto (-68), 3) := by decide +kernel
theorem dX10_is_106 : decode cX10_is 106 = .ok (.iload 4, 2) := by decide +kernel
theorem dX10_is_108 : decode cX10_is 108 = .ok (.ireturn, 1) := by decide +kernel
theorem dX10_missed_0 : decode cX10_missed 0 = .ok (.iload_n 1, 1) := by decide +kernel
theorem dX10_missed_1 : decode cX10_missed 1 = .ok (.invokestatic 55, 3) := by decide +kernel
theorem dX10_missed_4 : decode cX10_missed 4 = .ok (.ifCond .eq 20, 3) := by decide +kernel
theorem dX10_missed_7 : decode cX10_missed 7 = .ok (.iload_n 2, 1) := by decide +kernel
theorem dX10_missed_8 : decode cX10_missed 8 = .ok (.invokestatic 161, 3) := by decide +kernel
theorem dX10_missed_11 : decode cX10_missed 11 = .ok (.ifCond .eq 13, 3) := by decide +kernel
theorem dX10_missed_14 : decode cX10_missed 14 = .ok (.iload_n 3, 1) := by decide +kernel
theorem dX10_missed_15 : decode cX10_missed 15 = .ok (.iconst 0, 1) := by decide +kernel
theorem dX10_missed_16 : decode cX10_missed 16 = .ok (.bipush 10, 2) := by decide +kernel
theorem dX10_missed_18 : decode cX10_missed 18 = .ok (.invokestatic 59, 3) := by decide +kernel
theorem dX10_missed_21 : decode cX10_missed 21 = .ok (.ifCond .ne 8, 3) := by decide +kernel
theorem dX10_missed_24 : decode cX10_missed 24 = .ok (.aload_n 0, 1) := by decide +kernel
theorem dX10_missed_25 : decode cX10_missed 25 = .ok (.invokevirtual 74, 3) := by decide +kernel
theorem dX10_missed_28 : decode cX10_missed 28 = .ok (.ireturn, 1) := by decide +kernel
theorem dX10_missed_29 : decode cX10_missed 29 = .ok (.aload_n 0, 1) := by decide +kernel
theorem dX10_missed_30 : decode cX10_missed 30 = .ok (.aload_n 0, 1) := by decide +kernel
theorem dX10_missed_31 : decode cX10_missed 31 = .ok (.getfield 26, 3) := by decide +kernel
theorem dX10_missed_34 : decode cX10_missed 34 = .ok (.iload_n 1, 1) := by decide +kernel
theorem dX10_missed_35 : decode cX10_missed 35 = .ok (.iload_n 2, 1) := by decide +kernel
theorem dX10_missed_36 : decode cX10_missed 36 = .ok (.invokevirtual 114, 3) := by decide +kernel
theorem dX10_missed_39 : decode cX10_missed 39 = .ok (.invokestatic 238, 3) := by decide +kernel
theorem dX10_missed_42 : decode cX10_missed 42 = .ok (.bipush 10, 2) := by decide +kernel
theorem dX10_missed_44 : decode cX10_missed 44 = .ok (.iload_n 3, 1) := by decide +kernel
theorem dX10_missed_45 : decode cX10_missed 45 = .ok (.isub, 1) := by decide +kernel
theorem dX10_missed_46 : decode cX10_missed 46 = .ok (.imul, 1) := by decide +kernel
theorem dX10_missed_47 : decode cX10_missed 47 = .ok (.invokevirtual 243, 3) := by decide +kernel
theorem dX10_missed_50 : decode cX10_missed 50 = .ok (.iconst 1, 1) := by decide +kernel
theorem dX10_missed_51 : decode cX10_missed 51 = .ok (.ireturn, 1) := by decide +kernel
theorem dX10_nights_0 : decode cX10_nights 0 = .ok (.iload_n 1, 1) := by decide +kernel
theorem dX10_nights_1 : decode cX10_nights 1 = .ok (.iconst 0, 1) := by decide +kernel
theorem dX10_nights_2 : decode cX10_nights 2 = .ok (.ldc 246, 2) := by decide +kernel
theorem dX10_nights_4 : decode cX10_nights 4 = .ok (.invokestatic 59, 3) := by decide +kernel
theorem dX10_nights_7 : decode cX10_nights 7 = .ok (.ifCond .eq 13, 3) := by decide +kernel
theorem dX10_nights_10 : decode cX10_nights 10 = .ok (.iload_n 2, 1) := by decide +kernel
theorem dX10_nights_11 : decode cX10_nights 11 = .ok (.iconst 0, 1) := by decide +kernel
theorem dX10_nights_12 : decode cX10_nights 12 = .ok (.bipush 60, 2) := by decide +kernel
theorem dX10_nights_14 : decode cX10_nights 14 = .ok (.invokestatic 59, 3) := by decide +kernel
theorem dX10_nights_17 : decode cX10_nights 17 = .ok (.ifCond .ne 8, 3) := by decide +kernel
theorem dX10_nights_20 : decode cX10_nights 20 = .ok (.aload_n 0, 1) := by decide +kernel
theorem dX10_nights_21 : decode cX10_nights 21 = .ok (.invokevirtual 74, 3) := by decide +kernel
theorem dX10_nights_24 : decode cX10_nights 24 = .ok (.ireturn, 1) := by decide +kernel
theorem dX10_nights_25 : decode cX10_nights 25 = .ok (.iconst 0, 1) := by decide +kernel
theorem dX10_nights_26 : decode cX10_nights 26 = .ok (.istore_n 3, 1) := by decide +kernel
theorem dX10_nights_27 : decode cX10_nights 27 = .ok (.iload_n 1, 1) := by decide +kernel
theorem dX10_nights_28 : decode cX10_nights 28 = .ok (.i2l, 1) := by decide +kernel
theorem dX10_nights_29 : decode cX10_nights 29 = .ok (.lstore 4, 2) := by decide +kernel
theorem dX10_nights_31 : decode cX10_nights 31 = .ok (.iconst 0, 1) := by decide +kernel
theorem dX10_nights_32 : decode cX10_nights 32 = .ok (.istore 6, 2) := by decide +kernel
theorem dX10_nights_34 : decode cX10_nights 34 = .ok (.iload 6, 2) := by decide +kernel
theorem dX10_nights_36 : decode cX10_nights 36 = .ok (.iload_n 2, 1) := by decide +kernel
theorem dX10_nights_37 : decode cX10_nights 37 = .ok (.if_icmp .ge 68, 3) := by decide +kernel
theorem dX10_nights_40 : decode cX10_nights 40 = .ok (.lload 4, 2) := by decide +kernel
theorem dX10_nights_42 : decode cX10_nights 42 = .ok (.ldc2_w 247, 3) := by decide +kernel
theorem dX10_nights_45 : decode cX10_nights 45 = .ok (.lmul, 1) := by decide +kernel
theorem dX10_nights_46 : decode cX10_nights 46 = .ok (.ldc2_w 249, 3) := by decide +kernel
theorem dX10_nights_49 : decode cX10_nights 49 = .ok (.ladd, 1) := by decide +kernel
theorem dX10_nights_50 : decode cX10_nights 50 = .ok (.ldc2_w 251, 3) := by decide +kernel
theorem dX10_nights_53 : decode cX10_nights 53 = .ok (.lrem, 1) := by decide +kernel
theorem dX10_nights_54 : decode cX10_nights 54 = .ok (.lstore 4, 2) := by decide +kernel
theorem dX10_nights_56 : decode cX10_nights 56 = .ok (.lload 4, 2) := by decide +kernel
theorem dX10_nights_58 : decode cX10_nights 58 = .ok (.ldc2_w 253, 3) := by decide +kernel
theorem dX10_nights_61 : decode cX10_nights 61 = .ok (.ldiv, 1) := by decide +kernel
theorem dX10_nights_62 : decode cX10_nights 62 = .ok (.ldc2_w 255, 3) := by decide +kernel
theorem dX10_nights_65 : decode cX10_nights 65 = .ok (.lrem, 1) := by decide +kernel
theorem dX10_nights_66 : decode cX10_nights 66 = .ok (.l2i, 1) := by decide +kernel
theorem dX10_nights_67 : decode cX10_nights 67 = .ok (.istore 7, 2) := by decide +kernel
theorem dX10_nights_69 : decode cX10_nights 69 = .ok (.lload 4, 2) := by decide +kernel
theorem dX10_nights_71 : decode cX10_nights 71 = .ok (.ldc2_w 257, 3) := by decide +kernel
theorem dX10_nights_74 : decode cX10_nights 74 = .ok (.ldiv, 1) := by decide +kernel
theorem dX10_nights_75 : decode cX10_nights 75 = .ok (.ldc2_w 259, 3) := by decide +kernel
theorem dX10_nights_78 : decode cX10_nights 78 = .ok (.lrem, 1) := by decide +kernel
theorem dX10_nights_79 : decode cX10_nights 79 = .ok (.l2i, 1) := by decide +kernel
theorem dX10_nights_80 : decode cX10_nights 80 = .ok (.istore 8, 2) := by decide +kernel
theorem dX10_nights_82 : decode cX10_nights 82 = .ok (.aload_n 0, 1) := by decide +kernel
theorem dX10_nights_83 : decode cX10_nights 83 = .ok (.getfield 26, 3) := by decide +kernel
theorem dX10_nights_86 : decode cX10_nights 86 = .ok (.iload 7, 2) := by decide +kernel
theorem dX10_nights_88 : decode cX10_nights 88 = .ok (.iload 8, 2) := by decide +kernel
theorem dX10_nights_90 : decode cX10_nights 90 = .ok (.invokevirtual 261, 3) := by decide +kernel
theorem dX10_nights_93 : decode cX10_nights 93 = .ok (.ifCond .eq 6, 3) := by decide +kernel
theorem dX10_nights_96 : decode cX10_nights 96 = .ok (.iinc 3 1, 3) := by decide +kernel
theorem dX10_nights_99 : decode cX10_nights 99 = .ok (.iinc 6 1, 3) := by decide +kernel
theorem dX10_nights_102 : decode cX10_nights 102 = .ok (.goto (-68), 3) := by decide +kernel
theorem dX10_nights_105 : decode cX10_nights 105 = .ok (.iload_n 3, 1) := by decide +kernel
theorem dX10_nights_106 : decode cX10_nights 106 = .ok (.ireturn, 1) := by decide +kernel
theorem dX10_part_0 : decode cX10_part 0 = .ok (.iload_n 1, 1) := by decide +kernel
theorem dX10_part_1 : decode cX10_part 1 = .ok (.iconst 0, 1) := by decide +kernel
theorem dX10_part_2 : decode cX10_part 2 = .ok (.iconst 1, 1) := by decide +kernel
theorem dX10_part_3 : decode cX10_part 3 = .ok (.invokestatic 59, 3) := by decide +kernel
theorem dX10_part_6 : decode cX10_part 6 = .ok (.ifCond .ne 9, 3) := by decide +kernel
theorem dX10_part_9 : decode cX10_part 9 = .ok (.aload_n 0, 1) := by decide +kernel
theorem dX10_part_10 : decode cX10_part 10 = .ok (.invokevirtual 74, 3) := by decide +kernel
theorem dX10_part_13 : decode cX10_part 13 = .ok (.i2l, 1) := by decide +kernel
theorem dX10_part_14 : decode cX10_part 14 = .ok (.lreturn, 1) := by decide +kernel
theorem dX10_part_15 : decode cX10_part 15 = .ok (.iload_n 1, 1) := by decide +kernel
theorem dX10_part_16 : decode cX10_part 16 = .ok (.ifCond .ne 10, 3) := by decide +kernel
theorem dX10_part_19 : decode cX10_part 19 = .ok (.aload_n 0, 1) := by decide +kernel
theorem dX10_part_20 : decode cX10_part 20 = .ok (.getfield 41, 3) := by decide +kernel
theorem dX10_part_23 : decode cX10_part 23 = .ok (.goto 7, 3) := by decide +kernel
theorem dX10_part_26 : decode cX10_part 26 = .ok (.aload_n 0, 1) := by decide +kernel
theorem dX10_part_27 : decode cX10_part 27 = .ok (.getfield 45, 3) := by decide +kernel
theorem dX10_part_30 : decode cX10_part 30 = .ok (.lreturn, 1) := by decide +kernel
theorem dX10_image_0 : decode cX10_image 0 = .ok (.iload_n 1, 1) := by decide +kernel
theorem dX10_image_1 : decode cX10_image 1 = .ok (.iconst 0, 1) := by decide +kernel
theorem dX10_image_2 : decode cX10_image 2 = .ok (.iconst 1, 1) := by decide +kernel
theorem dX10_image_3 : decode cX10_image 3 = .ok (.invokestatic 59, 3) := by decide +kernel
theorem dX10_image_6 : decode cX10_image 6 = .ok (.ifCond .ne 8, 3) := by decide +kernel
theorem dX10_image_9 : decode cX10_image 9 = .ok (.aload_n 0, 1) := by decide +kernel
theorem dX10_image_10 : decode cX10_image 10 = .ok (.invokevirtual 74, 3) := by decide +kernel
theorem dX10_image_13 : decode cX10_image 13 = .ok (.ireturn, 1) := by decide +kernel
theorem dX10_image_14 : decode cX10_image 14 = .ok (.aload_n 0, 1) := by decide +kernel
theorem dX10_image_15 : decode cX10_image 15 = .ok (.getfield 33, 3) := by decide +kernel
theorem dX10_image_18 : decode cX10_image 18 = .ok (.iload_n 1, 1) := by decide +kernel
theorem dX10_image_19 : decode cX10_image 19 = .ok (.aaload, 1) := by decide +kernel
theorem dX10_image_20 : decode cX10_image 20 = .ok (.aload_n 0, 1) := by decide +kernel
theorem dX10_image_21 : decode cX10_image 21 = .ok (.getfield 26, 3) := by decide +kernel
theorem dX10_image_24 : decode cX10_image 24 = .ok (.invokevirtual 264, 3) := by decide +kernel
theorem dX10_image_27 : decode cX10_image 27 = .ok (.aload_n 0, 1) := by decide +kernel
theorem dX10_image_28 : decode cX10_image 28 = .ok (.getfield 37, 3) := by decide +kernel
theorem dX10_image_31 : decode cX10_image 31 = .ok (.iload_n 1, 1) := by decide +kernel
theorem dX10_image_32 : decode cX10_image 32 = .ok (.iconst 1, 1) := by decide +kernel
theorem dX10_image_33 : decode cX10_image 33 = .ok (.bastore, 1) := by decide +kernel
theorem dX10_image_34 : decode cX10_image 34 = .ok (.iconst 1, 1) := by decide +kernel
theorem dX10_image_35 : decode cX10_image 35 = .ok (.ireturn, 1) := by decide +kernel
theorem dX10_from_0 : decode cX10_from 0 = .ok (.iload_n 1, 1) := by decide +kernel
theorem dX10_from_1 : decode cX10_from 1 = .ok (.iconst 0, 1) := by decide +kernel
theorem dX10_from_2 : decode cX10_from 2 = .ok (.iconst 1, 1) := by decide +kernel
theorem dX10_from_3 : decode cX10_from 3 = .ok (.invokestatic 59, 3) := by decide +kernel
theorem dX10_from_6 : decode cX10_from 6 = .ok (.ifCond .ne 8, 3) := by decide +kernel
theorem dX10_from_9 : decode cX10_from 9 = .ok (.aload_n 0, 1) := by decide +kernel
theorem dX10_from_10 : decode cX10_from 10 = .ok (.invokevirtual 74, 3) := by decide +kernel
theorem dX10_from_13 : decode cX10_from 13 = .ok (.ireturn, 1) := by decide +kernel
theorem dX10_from_14 : decode cX10_from 14 = .ok (.aload_n 0, 1) := by decide +kernel
theorem dX10_from_15 : decode cX10_from 15 = .ok (.getfield 37, 3) := by decide +kernel
theorem dX10_from_18 : decode cX10_from 18 = .ok (.iload_n 1, 1) := by decide +kernel
theorem dX10_from_19 : decode cX10_from 19 = .ok (.baload, 1) := by decide +kernel
theorem dX10_from_20 : decode cX10_from 20 = .ok (.ifCond .ne 8, 3) := by decide +kernel
theorem dX10_from_23 : decode cX10_from 23 = .ok (.aload_n 0, 1) := by decide +kernel
theorem dX10_from_24 : decode cX10_from 24 = .ok (.invokevirtual 120, 3) := by decide +kernel
theorem dX10_from_27 : decode cX10_from 27 = .ok (.ireturn, 1) := by decide +kernel
theorem dX10_from_28 : decode cX10_from 28 = .ok (.aload_n 0, 1) := by decide +kernel
theorem dX10_from_29 : decode cX10_from 29 = .ok (.getfield 26, 3) := by decide +kernel
theorem dX10_from_32 : decode cX10_from 32 = .ok (.aload_n 0, 1) := by decide +kernel
theorem dX10_from_33 : decode cX10_from 33 = .ok (.getfield 33, 3) := by decide +kernel
theorem dX10_from_36 : decode cX10_from 36 = .ok (.iload_n 1, 1) := by decide +kernel
theorem dX10_from_37 : decode cX10_from 37 = .ok (.aaload, 1) := by decide +kernel
theorem dX10_from_38 : decode cX10_from 38 = .ok (.invokevirtual 264, 3) := by decide +kernel
theorem dX10_from_41 : decode cX10_from 41 = .ok (.iconst 1, 1) := by decide +kernel
theorem dX10_from_42 : decode cX10_from 42 = .ok (.ireturn, 1) := by decide +kernel
theorem dX10_status_0 : decode cX10_status 0 = .ok (.iload_n 1, 1) := by decide +kernel
theorem dX10_status_1 : decode cX10_status 1 = .ok (.tableswitch 42 0 2 #[27, 32, 37], 27) := by decide +kernel
theorem dX10_status_28 : decode cX10_status 28 = .ok (.aload_n 0, 1) := by decide +kernel
theorem dX10_status_29 : decode cX10_status 29 = .ok (.getfield 63, 3) := by decide +kernel
theorem dX10_status_32 : decode cX10_status 32 = .ok (.ireturn, 1) := by decide +kernel
theorem dX10_status_33 : decode cX10_status 33 = .ok (.aload_n 0, 1) := by decide +kernel
theorem dX10_status_34 : decode cX10_status 34 = .ok (.getfield 267, 3) := by decide +kernel
theorem dX10_status_37 : decode cX10_status 37 = .ok (.ireturn, 1) := by decide +kernel
theorem dX10_status_38 : decode cX10_status 38 = .ok (.aload_n 0, 1) := by decide +kernel
theorem dX10_status_39 : decode cX10_status 39 = .ok (.getfield 270, 3) := by decide +kernel
theorem dX10_status_42 : decode cX10_status 42 = .ok (.ireturn, 1) := by decide +kernel
theorem dX10_status_43 : decode cX10_status 43 = .ok (.aload_n 0, 1) := by decide +kernel
theorem dX10_status_44 : decode cX10_status 44 = .ok (.dup, 1) := by decide +kernel
theorem dX10_status_45 : decode cX10_status 45 = .ok (.getfield 63, 3) := by decide +kernel
theorem dX10_status_48 : decode cX10_status 48 = .ok (.iconst 1, 1) := by decide +kernel
theorem dX10_status_49 : decode cX10_status 49 = .ok (.iadd, 1) := by decide +kernel
theorem dX10_status_50 : decode cX10_status 50 = .ok (.putfield 63, 3) := by decide +kernel
theorem dX10_status_53 : decode cX10_status 53 = .ok (.iconst (-1), 1) := by decide +kernel
theorem dX10_status_54 : decode cX10_status 54 = .ok (.ireturn, 1) := by decide +kernel
theorem dX10_count_0 : decode cX10_count 0 = .ok (.iload_n 1, 1) := by decide +kernel
theorem dX10_count_1 : decode cX10_count 1 = .ok (.iconst 0, 1) := by decide +kernel
theorem dX10_count_2 : decode cX10_count 2 = .ok (.bipush 7, 2) := by decide +kernel
theorem dX10_count_4 : decode cX10_count 4 = .ok (.invokestatic 59, 3) := by decide +kernel
theorem dX10_count_7 : decode cX10_count 7 = .ok (.ifCond .eq 11, 3) := by decide +kernel
theorem dX10_count_10 : decode cX10_count 10 = .ok (.aload_n 0, 1) := by decide +kernel
theorem dX10_count_11 : decode cX10_count 11 = .ok (.iload_n 1, 1) := by decide +kernel
theorem dX10_count_12 : decode cX10_count 12 = .ok (.invokevirtual 273, 3) := by decide +kernel
theorem dX10_count_15 : decode cX10_count 15 = .ok (.goto 7, 3) := by decide +kernel
theorem dX10_count_18 : decode cX10_count 18 = .ok (.aload_n 0, 1) := by decide +kernel
theorem dX10_count_19 : decode cX10_count 19 = .ok (.invokevirtual 74, 3) := by decide +kernel
theorem dX10_count_22 : decode cX10_count 22 = .ok (.ireturn, 1) := by decide +kernel
theorem dX10_digest_0 : decode cX10_digest 0 = .ok (.ldc2_w 276, 3) := by decide +kernel
theorem dX10_digest_3 : decode cX10_digest 3 = .ok (.lstore_n 1, 1) := by decide +kernel
theorem dX10_digest_4 : decode cX10_digest 4 = .ok (.iconst 0, 1) := by decide +kernel
theorem dX10_digest_5 : decode cX10_digest 5 = .ok (.istore_n 3, 1) := by decide +kernel
theorem dX10_digest_6 : decode cX10_digest 6 = .ok (.iload_n 3, 1) := by decide +kernel
theorem dX10_digest_7 : decode cX10_digest 7 = .ok (.bipush 8, 2) := by decide +kernel
theorem dX10_digest_9 : decode cX10_digest 9 = .ok (.if_icmp .ge 20, 3) := by decide +kernel
theorem dX10_digest_12 : decode cX10_digest 12 = .ok (.lload_n 1, 1) := by decide +kernel
theorem dX10_digest_13 : decode cX10_digest 13 = .ok (.aload_n 0, 1) := by decide +kernel
theorem dX10_digest_14 : decode cX10_digest 14 = .ok (.iload_n 3, 1) := by decide +kernel
theorem dX10_digest_15 : decode cX10_digest 15 = .ok (.invokevirtual 273, 3) := by decide +kernel
theorem dX10_digest_18 : decode cX10_digest 18 = .ok (.i2l, 1) := by decide +kernel
theorem dX10_digest_19 : decode cX10_digest 19 = .ok (.invokestatic 278, 3) := by decide +kernel
theorem dX10_digest_22 : decode cX10_digest 22 = .ok (.lstore_n 1, 1) := by decide +kernel
theorem dX10_digest_23 : decode cX10_digest 23 = .ok (.iinc 3 1, 3) := by decide +kernel
theorem dX10_digest_26 : decode cX10_digest 26 = .ok (.goto (-20), 3) := by decide +kernel
theorem dX10_digest_29 : decode cX10_digest 29 = .ok (.aload_n 0, 1) := by decide +kernel
theorem dX10_digest_30 : decode cX10_digest 30 = .ok (.getfield 26, 3) := by decide +kernel
theorem dX10_digest_33 : decode cX10_digest 33 = .ok (.lload_n 1, 1) := by decide +kernel
theorem dX10_digest_34 : decode cX10_digest 34 = .ok (.invokevirtual 282, 3) := by decide +kernel
theorem dX10_digest_37 : decode cX10_digest 37 = .ok (.lstore_n 1, 1) := by decide +kernel
theorem dX10_digest_38 : decode cX10_digest 38 = .ok (.lload_n 1, 1) := by decide +kernel
theorem dX10_digest_39 : decode cX10_digest 39 = .ok (.aload_n 0, 1) := by decide +kernel
theorem dX10_digest_40 : decode cX10_digest 40 = .ok (.getfield 41, 3) := by decide +kernel
theorem dX10_digest_43 : decode cX10_digest 43 = .ok (.invokestatic 278, 3) := by decide +kernel
theorem dX10_digest_46 : decode cX10_digest 46 = .ok (.aload_n 0, 1) := by decide +kernel
theorem dX10_digest_47 : decode cX10_digest 47 = .ok (.getfield 45, 3) := by decide +kernel
theorem dX10_digest_50 : decode cX10_digest 50 = .ok (.invokestatic 278, 3) := by decide +kernel
theorem dX10_digest_53 : decode cX10_digest 53 = .ok (.lreturn, 1) := by decide +kernel
theorem dX10_howMany_0 : decode cX10_howMany 0 = .ok (.iload_n 1, 1) := by decide +kernel
theorem dX10_howMany_1 : decode cX10_howMany 1 = .ok (.tableswitch 114 0 6 #[43, 51, 62, 73, 84, 98, 106], 43) := by decide +kernel
theorem dX10_howMany_44 : decode cX10_howMany 44 = .ok (.aload_n 0, 1) := by decide +kernel
theorem dX10_howMany_45 : decode cX10_howMany 45 = .ok (.getfield 26, 3) := by decide +kernel
theorem dX10_howMany_48 : decode cX10_howMany 48 = .ok (.getfield 48, 3) := by decide +kernel
theorem dX10_howMany_51 : decode cX10_howMany 51 = .ok (.ireturn, 1) := by decide +kernel
theorem dX10_howMany_52 : decode cX10_howMany 52 = .ok (.aload_n 0, 1) := by decide +kernel
theorem dX10_howMany_53 : decode cX10_howMany 53 = .ok (.getfield 26, 3) := by decide +kernel
theorem dX10_howMany_56 : decode cX10_howMany 56 = .ok (.getfield 102, 3) := by decide +kernel
theorem dX10_howMany_59 : decode cX10_howMany 59 = .ok (.getfield 111, 3) := by decide +kernel
theorem dX10_howMany_62 : decode cX10_howMany 62 = .ok (.ireturn, 1) := by decide +kernel
theorem dX10_howMany_63 : decode cX10_howMany 63 = .ok (.aload_n 0, 1) := by decide +kernel
theorem dX10_howMany_64 : decode cX10_howMany 64 = .ok (.getfield 26, 3) := by decide +kernel
theorem dX10_howMany_67 : decode cX10_howMany 67 = .ok (.getfield 102, 3) := by decide +kernel
theorem dX10_howMany_70 : decode cX10_howMany 70 = .ok (.getfield 106, 3) := by decide +kernel
theorem dX10_howMany_73 : decode cX10_howMany 73 = .ok (.ireturn, 1) := by decide +kernel
theorem dX10_howMany_74 : decode cX10_howMany 74 = .ok (.aload_n 0, 1) := by decide +kernel
theorem dX10_howMany_75 : decode cX10_howMany 75 = .ok (.getfield 26, 3) := by decide +kernel
theorem dX10_howMany_78 : decode cX10_howMany 78 = .ok (.getfield 102, 3) := by decide +kernel
theorem dX10_howMany_81 : decode cX10_howMany 81 = .ok (.getfield 137, 3) := by decide +kernel
theorem dX10_howMany_84 : decode cX10_howMany 84 = .ok (.ireturn, 1) := by decide +kernel
theorem dX10_howMany_85 : decode cX10_howMany 85 = .ok (.aload_n 0, 1) := by decide +kernel
theorem dX10_howMany_86 : decode cX10_howMany 86 = .ok (.getfield 26, 3) := by decide +kernel
theorem dX10_howMany_89 : decode cX10_howMany 89 = .ok (.getfield 102, 3) := by decide +kernel
theorem dX10_howMany_92 : decode cX10_howMany 92 = .ok (.getfield 149, 3) := by decide +kernel
theorem dX10_howMany_95 : decode cX10_howMany 95 = .ok (.invokestatic 238, 3) := by decide +kernel
theorem dX10_howMany_98 : decode cX10_howMany 98 = .ok (.ireturn, 1) := by decide +kernel
theorem dX10_howMany_99 : decode cX10_howMany 99 = .ok (.aload_n 0, 1) := by decide +kernel
theorem dX10_howMany_100 : decode cX10_howMany 100 = .ok (.getfield 26, 3) := by decide +kernel
theorem dX10_howMany_103 : decode cX10_howMany 103 = .ok (.getfield 219, 3) := by decide +kernel
theorem dX10_howMany_106 : decode cX10_howMany 106 = .ok (.ireturn, 1) := by decide +kernel
theorem dX10_howMany_107 : decode cX10_howMany 107 = .ok (.aload_n 0, 1) := by decide +kernel
theorem dX10_howMany_108 : decode cX10_howMany 108 = .ok (.getfield 26, 3) := by decide +kernel
theorem dX10_howMany_111 : decode cX10_howMany 111 = .ok (.getfield 140, 3) := by decide +kernel
theorem dX10_howMany_114 : decode cX10_howMany 114 = .ok (.ireturn, 1) := by decide +kernel
theorem dX10_howMany_115 : decode cX10_howMany 115 = .ok (.aload_n 0, 1) := by decide +kernel
theorem dX10_howMany_116 : decode cX10_howMany 116 = .ok (.getfield 10, 3) := by decide +kernel
theorem dX10_howMany_119 : decode cX10_howMany 119 = .ok (.getfield 84, 3) := by decide +kernel
theorem dX10_howMany_122 : decode cX10_howMany 122 = .ok (.ireturn, 1) := by decide +kernel
theorem dX10_setTenths_0 : decode cX10_setTenths 0 = .ok (.bipush 10, 2) := by decide +kernel
theorem dX10_setTenths_2 : decode cX10_setTenths 2 = .ok (.istore_n 2, 1) := by decide +kernel
theorem dX10_setTenths_3 : decode cX10_setTenths 3 = .ok (.iload_n 2, 1) := by decide +kernel
theorem dX10_setTenths_4 : decode cX10_setTenths 4 = .ok (.ifCond .le 40, 3) := by decide +kernel
theorem dX10_setTenths_7 : decode cX10_setTenths 7 = .ok (.bipush 10, 2) := by decide +kernel
theorem dX10_setTenths_9 : decode cX10_setTenths 9 = .ok (.iload_n 2, 1) := by decide +kernel
theorem dX10_setTenths_10 : decode cX10_setTenths 10 = .ok (.irem, 1) := by decide +kernel
theorem dX10_setTenths_11 : decode cX10_setTenths 11 = .ok (.ifCond .ne 27, 3) := by decide +kernel
theorem dX10_setTenths_14 : decode cX10_setTenths 14 = .ok (.iload_n 1, 1) := by decide +kernel
theorem dX10_setTenths_15 : decode cX10_setTenths 15 = .ok (.iload_n 2, 1) := by decide +kernel
theorem dX10_setTenths_16 : decode cX10_setTenths 16 = .ok (.irem, 1) := by decide +kernel
theorem dX10_setTenths_17 : decode cX10_setTenths 17 = .ok (.ifCond .ne 21, 3) := by decide +kernel
theorem dX10_setTenths_20 : decode cX10_setTenths 20 = .ok (.aload_n 0, 1) := by decide +kernel
theorem dX10_setTenths_21 : decode cX10_setTenths 21 = .ok (.iload_n 1, 1) := by decide +kernel
theorem dX10_setTenths_22 : decode cX10_setTenths 22 = .ok (.iload_n 2, 1) := by decide +kernel
theorem dX10_setTenths_23 : decode cX10_setTenths 23 = .ok (.idiv, 1) := by decide +kernel
theorem dX10_setTenths_24 : decode cX10_setTenths 24 = .ok (.i2l, 1) := by decide +kernel
theorem dX10_setTenths_25 : decode cX10_setTenths 25 = .ok (.putfield 41, 3) := by decide +kernel
theorem dX10_setTenths_28 : decode cX10_setTenths 28 = .ok (.aload_n 0, 1) := by decide +kernel
theorem dX10_setTenths_29 : decode cX10_setTenths 29 = .ok (.bipush 10, 2) := by decide +kernel
theorem dX10_setTenths_31 : decode cX10_setTenths 31 = .ok (.iload_n 2, 1) := by decide +kernel
theorem dX10_setTenths_32 : decode cX10_setTenths 32 = .ok (.idiv, 1) := by decide +kernel
theorem dX10_setTenths_33 : decode cX10_setTenths 33 = .ok (.i2l, 1) := by decide +kernel
theorem dX10_setTenths_34 : decode cX10_setTenths 34 = .ok (.putfield 45, 3) := by decide +kernel
theorem dX10_setTenths_37 : decode cX10_setTenths 37 = .ok (.return_, 1) := by decide +kernel
theorem dX10_setTenths_38 : decode cX10_setTenths 38 = .ok (.iinc 2 (-1), 3) := by decide +kernel
theorem dX10_setTenths_41 : decode cX10_setTenths 41 = .ok (.goto (-38), 3) := by decide +kernel
theorem dX10_setTenths_44 : decode cX10_setTenths 44 = .ok (.return_, 1) := by decide +kernel
theorem dX10_refuseBad_0 : decode cX10_refuseBad 0 = .ok (.aload_n 0, 1) := by decide +kernel
theorem dX10_refuseBad_1 : decode cX10_refuseBad 1 = .ok (.dup, 1) := by decide +kernel
theorem dX10_refuseBad_2 : decode cX10_refuseBad 2 = .ok (.getfield 63, 3) := by decide +kernel
theorem dX10_refuseBad_5 : decode cX10_refuseBad 5 = .ok (.iconst 1, 1) := by decide +kernel
theorem dX10_refuseBad_6 : decode cX10_refuseBad 6 = .ok (.iadd, 1) := by decide +kernel
theorem dX10_refuseBad_7 : decode cX10_refuseBad 7 = .ok (.putfield 63, 3) := by decide +kernel
theorem dX10_refuseBad_10 : decode cX10_refuseBad 10 = .ok (.bipush (-2), 2) := by decide +kernel
theorem dX10_refuseBad_12 : decode cX10_refuseBad 12 = .ok (.ireturn, 1) := by decide +kernel
theorem dX10_refuseNo_0 : decode cX10_refuseNo 0 = .ok (.aload_n 0, 1) := by decide +kernel
theorem dX10_refuseNo_1 : decode cX10_refuseNo 1 = .ok (.dup, 1) := by decide +kernel
theorem dX10_refuseNo_2 : decode cX10_refuseNo 2 = .ok (.getfield 267, 3) := by decide +kernel
theorem dX10_refuseNo_5 : decode cX10_refuseNo 5 = .ok (.iconst 1, 1) := by decide +kernel
theorem dX10_refuseNo_6 : decode cX10_refuseNo 6 = .ok (.iadd, 1) := by decide +kernel
theorem dX10_refuseNo_7 : decode cX10_refuseNo 7 = .ok (.putfield 267, 3) := by decide +kernel
theorem dX10_refuseNo_10 : decode cX10_refuseNo 10 = .ok (.bipush (-3), 2) := by decide +kernel
theorem dX10_refuseNo_12 : decode cX10_refuseNo 12 = .ok (.ireturn, 1) := by decide +kernel
theorem dX10_refuseFull_0 : decode cX10_refuseFull 0 = .ok (.aload_n 0, 1) := by decide +kernel
theorem dX10_refuseFull_1 : decode cX10_refuseFull 1 = .ok (.dup, 1) := by decide +kernel
theorem dX10_refuseFull_2 : decode cX10_refuseFull 2 = .ok (.getfield 270, 3) := by decide +kernel
theorem dX10_refuseFull_5 : decode cX10_refuseFull 5 = .ok (.iconst 1, 1) := by decide +kernel
theorem dX10_refuseFull_6 : decode cX10_refuseFull 6 = .ok (.iadd, 1) := by decide +kernel
theorem dX10_refuseFull_7 : decode cX10_refuseFull 7 = .ok (.putfield 270, 3) := by decide +kernel
theorem dX10_refuseFull_10 : decode cX10_refuseFull 10 = .ok (.bipush (-4), 2) := by decide +kernel
theorem dX10_refuseFull_12 : decode cX10_refuseFull 12 = .ok (.ireturn, 1) := by decide +kernel
theorem dX10_isAlarm_0 : decode cX10_isAlarm 0 = .ok (.iload_n 1, 1) := by decide +kernel
theorem dX10_isAlarm_1 : decode cX10_isAlarm 1 = .ok (.iconst 0, 1) := by decide +kernel
theorem dX10_isAlarm_2 : decode cX10_isAlarm 2 = .ok (.aload_n 0, 1) := by decide +kernel
theorem dX10_isAlarm_3 : decode cX10_isAlarm 3 = .ok (.getfield 26, 3) := by decide +kernel
theorem dX10_isAlarm_6 : decode cX10_isAlarm 6 = .ok (.getfield 48, 3) := by decide +kernel
theorem dX10_isAlarm_9 : decode cX10_isAlarm 9 = .ok (.iconst 1, 1) := by decide +kernel
theorem dX10_isAlarm_10 : decode cX10_isAlarm 10 = .ok (.isub, 1) := by decide +kernel
theorem dX10_isAlarm_11 : decode cX10_isAlarm 11 = .ok (.invokestatic 59, 3) := by decide +kernel
theorem dX10_isAlarm_14 : decode cX10_isAlarm 14 = .ok (.ireturn, 1) := by decide +kernel
theorem dX10_isRoom_0 : decode cX10_isRoom 0 = .ok (.iload_n 0, 1) := by decide +kernel
theorem dX10_isRoom_1 : decode cX10_isRoom 1 = .ok (.iconst 0, 1) := by decide +kernel
theorem dX10_isRoom_2 : decode cX10_isRoom 2 = .ok (.bipush 7, 2) := by decide +kernel
theorem dX10_isRoom_4 : decode cX10_isRoom 4 = .ok (.invokestatic 59, 3) := by decide +kernel
theorem dX10_isRoom_7 : decode cX10_isRoom 7 = .ok (.ireturn, 1) := by decide +kernel
theorem dX10_isSecond_0 : decode cX10_isSecond 0 = .ok (.iload_n 0, 1) := by decide +kernel
theorem dX10_isSecond_1 : decode cX10_isSecond 1 = .ok (.iconst 0, 1) := by decide +kernel
theorem dX10_isSecond_2 : decode cX10_isSecond 2 = .ok (.sipush 9999, 3) := by decide +kernel
theorem dX10_isSecond_5 : decode cX10_isSecond 5 = .ok (.invokestatic 59, 3) := by decide +kernel
theorem dX10_isSecond_8 : decode cX10_isSecond 8 = .ok (.ireturn, 1) := by decide +kernel
theorem dX10_within_0 : decode cX10_within 0 = .ok (.iload_n 0, 1) := by decide +kernel
theorem dX10_within_1 : decode cX10_within 1 = .ok (.iload_n 1, 1) := by decide +kernel
theorem dX10_within_2 : decode cX10_within 2 = .ok (.if_icmp .lt 12, 3) := by decide +kernel
theorem dX10_within_5 : decode cX10_within 5 = .ok (.iload_n 0, 1) := by decide +kernel
theorem dX10_within_6 : decode cX10_within 6 = .ok (.iload_n 2, 1) := by decide +kernel
theorem dX10_within_7 : decode cX10_within 7 = .ok (.if_icmp .gt 7, 3) := by decide +kernel
theorem dX10_within_10 : decode cX10_within 10 = .ok (.iconst 1, 1) := by decide +kernel
theorem dX10_within_11 : decode cX10_within 11 = .ok (.goto 4, 3) := by decide +kernel
theorem dX10_within_14 : decode cX10_within 14 = .ok (.iconst 0, 1) := by decide +kernel
theorem dX10_within_15 : decode cX10_within 15 = .ok (.ireturn, 1) := by decide +kernel
theorem dX10_has_0 : decode cX10_has 0 = .ok (.iload_n 0, 1) := by decide +kernel
theorem dX10_has_1 : decode cX10_has 1 = .ok (.iload_n 1, 1) := by decide +kernel
theorem dX10_has_2 : decode cX10_has 2 = .ok (.ishr, 1) := by decide +kernel
theorem dX10_has_3 : decode cX10_has 3 = .ok (.iconst 1, 1) := by decide +kernel
theorem dX10_has_4 : decode cX10_has 4 = .ok (.iand, 1) := by decide +kernel
theorem dX10_has_5 : decode cX10_has 5 = .ok (.iconst 1, 1) := by decide +kernel
theorem dX10_has_6 : decode cX10_has 6 = .ok (.if_icmp .ne 7, 3) := by decide +kernel
theorem dX10_has_9 : decode cX10_has 9 = .ok (.iconst 1, 1) := by decide +kernel
theorem dX10_has_10 : decode cX10_has 10 = .ok (.goto 4, 3) := by decide +kernel
theorem dX10_has_13 : decode cX10_has 13 = .ok (.iconst 0, 1) := by decide +kernel
theorem dX10_has_14 : decode cX10_has 14 = .ok (.ireturn, 1) := by decide +kernel
theorem dX10_mix_0 : decode cX10_mix 0 = .ok (.ldc2_w 286, 3) := by decide +kernel
theorem dX10_mix_3 : decode cX10_mix 3 = .ok (.lload_n 0, 1) := by decide +kernel
theorem dX10_mix_4 : decode cX10_mix 4 = .ok (.lmul, 1) := by decide +kernel
theorem dX10_mix_5 : decode cX10_mix 5 = .ok (.lload_n 2, 1) := by decide +kernel
theorem dX10_mix_6 : decode cX10_mix 6 = .ok (.ladd, 1) := by decide +kernel
theorem dX10_mix_7 : decode cX10_mix 7 = .ok (.lreturn, 1) := by decide +kernel
theorem dX11_init_0 : decode cX11_init 0 = .ok (.aload_n 0, 1) := by decide +kernel
theorem dX11_init_1 : decode cX11_init 1 = .ok (.invokespecial 1, 3) := by decide +kernel
theorem dX11_init_4 : decode cX11_init 4 = .ok (.aload_n 0, 1) := by decide +kernel
theorem dX11_init_5 : decode cX11_init 5 = .ok (.sipush 181, 3) := by decide +kernel
theorem dX11_init_8 : decode cX11_init 8 = .ok (.newarray .int, 2) := by decide +kernel
theorem dX11_init_10 : decode cX11_init 10 = .ok (.putfield 7, 3) := by decide +kernel
theorem dX11_init_13 : decode cX11_init 13 = .ok (.aload_n 0, 1) := by decide +kernel
theorem dX11_init_14 : decode cX11_init 14 = .ok (.sipush 181, 3) := by decide +kernel
theorem dX11_init_17 : decode cX11_init 17 = .ok (.newarray .int, 2) := by decide +kernel
theorem dX11_init_19 : decode cX11_init 19 = .ok (.putfield 13, 3) := by decide +kernel
theorem dX11_init_22 : decode cX11_init 22 = .ok (.aload_n 0, 1) := by decide +kernel
theorem dX11_init_23 : decode cX11_init 23 = .ok (.sipush 362, 3) := by decide +kernel
theorem dX11_init_26 : decode cX11_init 26 = .ok (.newarray .int, 2) := by decide +kernel
theorem dX11_init_28 : decode cX11_init 28 = .ok (.putfield 16, 3) := by decide +kernel
theorem dX11_init_31 : decode cX11_init 31 = .ok (.aload_n 0, 1) := by decide +kernel
theorem dX11_init_32 : decode cX11_init 32 = .ok (.iconst 2, 1) := by decide +kernel
theorem dX11_init_33 : decode cX11_init 33 = .ok (.newarray .boolean, 2) := by decide +kernel
theorem dX11_init_35 : decode cX11_init 35 = .ok (.putfield 19, 3) := by decide +kernel
theorem dX11_init_38 : decode cX11_init 38 = .ok (.aload_n 0, 1) := by decide +kernel
theorem dX11_init_39 : decode cX11_init 39 = .ok (.iconst 3, 1) := by decide +kernel
theorem dX11_init_40 : decode cX11_init 40 = .ok (.newarray .int, 2) := by decide +kernel
theorem dX11_init_42 : decode cX11_init 42 = .ok (.putfield 23, 3) := by decide +kernel
theorem dX11_init_45 : decode cX11_init 45 = .ok (.aload_n 0, 1) := by decide +kernel
theorem dX11_init_46 : decode cX11_init 46 = .ok (.lconst 1, 1) := by decide +kernel
theorem dX11_init_47 : decode cX11_init 47 = .ok (.putfield 26, 3) := by decide +kernel
theorem dX11_init_50 : decode cX11_init 50 = .ok (.aload_n 0, 1) := by decide +kernel
theorem dX11_init_51 : decode cX11_init 51 = .ok (.sipush 150, 3) := by decide +kernel
theorem dX11_init_54 : decode cX11_init 54 = .ok (.newarray .int, 2) := by decide +kernel
theorem dX11_init_56 : decode cX11_init 56 = .ok (.putfield 30, 3) := by decide +kernel
theorem dX11_init_59 : decode cX11_init 59 = .ok (.aload_n 0, 1) := by decide +kernel
theorem dX11_init_60 : decode cX11_init 60 = .ok (.bipush 64, 2) := by decide +kernel
theorem dX11_init_62 : decode cX11_init 62 = .ok (.newarray .int, 2) := by decide +kernel
theorem dX11_init_64 : decode cX11_init 64 = .ok (.putfield 33, 3) := by decide +kernel
theorem dX11_init_67 : decode cX11_init 67 = .ok (.aload_n 0, 1) := by decide +kernel
theorem dX11_init_68 : decode cX11_init 68 = .ok (.bipush 64, 2) := by decide +kernel
theorem dX11_init_70 : decode cX11_init 70 = .ok (.newarray .int, 2) := by decide +kernel
theorem dX11_init_72 : decode cX11_init 72 = .ok (.putfield 36, 3) := by decide +kernel
theorem dX11_init_75 : decode cX11_init 75 = .ok (.aload_n 0, 1) := by decide +kernel
theorem dX11_init_76 : decode cX11_init 76 = .ok (.bipush 64, 2) := by decide +kernel
theorem dX11_init_78 : decode cX11_init 78 = .ok (.newarray .int, 2) := by decide +kernel
theorem dX11_init_80 : decode cX11_init 80 = .ok (.putfield 39, 3) := by decide +kernel
theorem dX11_init_83 : decode cX11_init 83 = .ok (.aload_n 0, 1) := by decide +kernel
theorem dX11_init_84 : decode cX11_init 84 = .ok (.bipush 6, 2) := by decide +kernel
theorem dX11_init_86 : decode cX11_init 86 = .ok (.newarray .int, 2) := by decide +kernel
theorem dX11_init_88 : decode cX11_init 88 = .ok (.putfield 42, 3) := by decide +kernel
theorem dX11_init_91 : decode cX11_init 91 = .ok (.aload_n 0, 1) := by decide +kernel
theorem dX11_init_92 : decode cX11_init 92 = .ok (.bipush 6, 2) := by decide +kernel
theorem dX11_init_94 : decode cX11_init 94 = .ok (.newarray .int, 2) := by decide +kernel
theorem dX11_init_96 : decode cX11_init 96 = .ok (.putfield 45, 3) := by decide +kernel
theorem dX11_init_99 : decode cX11_init 99 = .ok (.aload_n 0, 1) := by decide +kernel
theorem dX11_init_100 : decode cX11_init 100 = .ok (.getfield 7, 3) := by decide +kernel
theorem dX11_init_103 : decode cX11_init 103 = .ok (.invokestatic 48, 3) := by decide +kernel
theorem dX11_init_106 : decode cX11_init 106 = .ok (.return_, 1) := by decide +kernel
theorem dX11_begin_0 : decode cX11_begin 0 = .ok (.iconst 0, 1) := by decide +kernel
theorem dX11_begin_1 : decode cX11_begin 1 = .ok (.istore_n 1, 1) := by decide +kernel
theorem dX11_begin_2 : decode cX11_begin 2 = .ok (.iload_n 1, 1) := by decide +kernel
theorem dX11_begin_3 : decode cX11_begin 3 = .ok (.sipush 181, 3) := by decide +kernel
theorem dX11_begin_6 : decode cX11_begin 6 = .ok (.if_icmp .ge 13, 3) := by decide +kernel
theorem dX11_begin_9 : decode cX11_begin 9 = .ok (.aload_n 0, 1) := by decide +kernel
theorem dX11_begin_10 : decode cX11_begin 10 = .ok (.iload_n 1, 1) := by decide +kernel
theorem dX11_begin_11 : decode cX11_begin 11 = .ok (.iconst 0, 1) := by decide +kernel
theorem dX11_begin_12 : decode cX11_begin 12 = .ok (.iastore, 1) := by decide +kernel
theorem dX11_begin_13 : decode cX11_begin 13 = .ok (.iinc 1 1, 3) := by decide +kernel
theorem dX11_begin_16 : decode cX11_begin 16 = .ok (.goto (-14), 3) := by decide +kernel
theorem dX11_begin_19 : decode cX11_begin 19 = .ok (.aload_n 0, 1) := by decide +kernel
theorem dX11_begin_20 : decode cX11_begin 20 = .ok (.bipush 92, 2) := by decide +kernel
theorem dX11_begin_22 : decode cX11_begin 22 = .ok (.iconst 3, 1) := by decide +kernel
theorem dX11_begin_23 : decode cX11_begin 23 = .ok (.iastore, 1) := by decide +kernel
theorem dX11_begin_24 : decode cX11_begin 24 = .ok (.return_, 1) := by decide +kernel
theorem dX11_in_0 : decode cX11_in 0 = .ok (.iload_n 0, 1) := by decide +kernel
theorem dX11_in_1 : decode cX11_in 1 = .ok (.iload_n 1, 1) := by decide +kernel
theorem dX11_in_2 : decode cX11_in 2 = .ok (.if_icmp .lt 12, 3) := by decide +kernel
theorem dX11_in_5 : decode cX11_in 5 = .ok (.iload_n 0, 1) := by decide +kernel
theorem dX11_in_6 : decode cX11_in 6 = .ok (.iload_n 2, 1) := by decide +kernel
theorem dX11_in_7 : decode cX11_in 7 = .ok (.if_icmp .gt 7, 3) := by decide +kernel
theorem dX11_in_10 : decode cX11_in 10 = .ok (.iconst 1, 1) := by decide +kernel
theorem dX11_in_11 : decode cX11_in 11 = .ok (.goto 4, 3) := by decide +kernel
theorem dX11_in_14 : decode cX11_in 14 = .ok (.iconst 0, 1) := by decide +kernel
theorem dX11_in_15 : decode cX11_in 15 = .ok (.ireturn, 1) := by decide +kernel
theorem dX11_has_0 : decode cX11_has 0 = .ok (.iload_n 0, 1) := by decide +kernel
theorem dX11_has_1 : decode cX11_has 1 = .ok (.iload_n 1, 1) := by decide +kernel
theorem dX11_has_2 : decode cX11_has 2 = .ok (.ishr, 1) := by decide +kernel
theorem dX11_has_3 : decode cX11_has 3 = .ok (.iconst 1, 1) := by decide +kernel
theorem dX11_has_4 : decode cX11_has 4 = .ok (.iand, 1) := by decide +kernel
theorem dX11_has_5 : decode cX11_has 5 = .ok (.iconst 1, 1) := by decide +kernel
theorem dX11_has_6 : decode cX11_has 6 = .ok (.if_icmp .ne 7, 3) := by decide +kernel
theorem dX11_has_9 : decode cX11_has 9 = .ok (.iconst 1, 1) := by decide +kernel
theorem dX11_has_10 : decode cX11_has 10 = .ok (.goto 4, 3) := by decide +kernel
theorem dX11_has_13 : decode cX11_has 13 = .ok (.iconst 0, 1) := by decide +kernel
theorem dX11_has_14 : decode cX11_has 14 = .ok (.ireturn, 1) := by decide +kernel
theorem dX11_bits_0 : decode cX11_bits 0 = .ok (.iconst 0, 1) := by decide +kernel
theorem dX11_bits_1 : decode cX11_bits 1 = .ok (.istore_n 1, 1) := by decide +kernel
theorem dX11_bits_2 : decode cX11_bits 2 = .ok (.iconst 0, 1) := by decide +kernel
theorem dX11_bits_3 : decode cX11_bits 3 = .ok (.istore_n 2, 1) := by decide +kernel
theorem dX11_bits_4 : decode cX11_bits 4 = .ok (.iload_n 2, 1) := by decide +kernel
theorem dX11_bits_5 : decode cX11_bits 5 = .ok (.bipush 6, 2) := by decide +kernel
theorem dX11_bits_7 : decode cX11_bits 7 = .ok (.if_icmp .ge 17, 3) := by decide +kernel
theorem dX11_bits_10 : decode cX11_bits 10 = .ok (.iload_n 1, 1) := by decide +kernel
theorem dX11_bits_11 : decode cX11_bits 11 = .ok (.iload_n 0, 1) := by decide +kernel
theorem dX11_bits_12 : decode cX11_bits 12 = .ok (.iload_n 2, 1) := by decide +kernel
theorem dX11_bits_13 : decode cX11_bits 13 = .ok (.ishr, 1) := by decide +kernel
theorem dX11_bits_14 : decode cX11_bits 14 = .ok (.iconst 1, 1) := by decide +kernel
theorem dX11_bits_15 : decode cX11_bits 15 = .ok (.iand, 1) := by decide +kernel
theorem dX11_bits_16 : decode cX11_bits 16 = .ok (.iadd, 1) := by decide +kernel
theorem dX11_bits_17 : decode cX11_bits 17 = .ok (.istore_n 1, 1) := by decide +kernel
theorem dX11_bits_18 : decode cX11_bits 18 = .ok (.iinc 2 1, 3) := by decide +kernel
theorem dX11_bits_21 : decode cX11_bits 21 = .ok (.goto (-17), 3) := by decide +kernel
theorem dX11_bits_24 : decode cX11_bits 24 = .ok (.iload_n 1, 1) := by decide +kernel
theorem dX11_bits_25 : decode cX11_bits 25 = .ok (.ireturn, 1) := by decide +kernel
theorem dX11_bad_0 : decode cX11_bad 0 = .ok (.aload_n 0, 1) := by decide +kernel
theorem dX11_bad_1 : decode cX11_bad 1 = .ok (.getfield 23, 3) := by decide +kernel
theorem dX11_bad_4 : decode cX11_bad 4 = .ok (.iconst 0, 1) := by decide +kernel
theorem dX11_bad_5 : decode cX11_bad 5 = .ok (.dup2, 1) := by decide +kernel
theorem dX11_bad_6 : decode cX11_bad 6 = .ok (.iaload, 1) := by decide +kernel
theorem dX11_bad_7 : decode cX11_bad 7 = .ok (.iconst 1, 1) := by decide +kernel
theorem dX11_bad_8 : decode cX11_bad 8 = .ok (.iadd, 1) := by decide +kernel
theorem dX11_bad_9 : decode cX11_bad 9 = .ok (.iastore, 1) := by decide +kernel
theorem dX11_bad_10 : decode cX11_bad 10 = .ok (.bipush (-2), 2) := by decide +kernel
theorem dX11_bad_12 : decode cX11_bad 12 = .ok (.ireturn, 1) := by decide +kernel
theorem dX11_no_0 : decode cX11_no 0 = .ok (.aload_n 0, 1) := by decide +kernel
theorem dX11_no_1 : decode cX11_no 1 = .ok (.getfield 23, 3) := by decide +kernel
theorem dX11_no_4 : decode cX11_no 4 = .ok (.iconst 1, 1) := by decide +kernel
theorem dX11_no_5 : decode cX11_no 5 = .ok (.dup2, 1) := by decide +kernel
theorem dX11_no_6 : decode cX11_no 6 = .ok (.iaload, 1) := by decide +kernel
theorem dX11_no_7 : decode cX11_no 7 = .ok (.iconst 1, 1) := by decide +kernel
theorem dX11_no_8 : decode cX11_no 8 = .ok (.iadd, 1) := by decide +kernel
theorem dX11_no_9 : decode cX11_no 9 = .ok (.iastore, 1) := by decide +kernel
theorem dX11_no_10 : decode cX11_no 10 = .ok (.bipush (-3), 2) := by decide +kernel
theorem dX11_no_12 : decode cX11_no 12 = .ok (.ireturn, 1) := by decide +kernel
theorem dX11_full_0 : decode cX11_full 0 = .ok (.aload_n 0, 1) := by decide +kernel
theorem dX11_full_1 : decode cX11_full 1 = .ok (.getfield 23, 3) := by decide +kernel
theorem dX11_full_4 : decode cX11_full 4 = .ok (.iconst 2, 1) := by decide +kernel
theorem dX11_full_5 : decode cX11_full 5 = .ok (.dup2, 1) := by decide +kernel
theorem dX11_full_6 : decode cX11_full 6 = .ok (.iaload, 1) := by decide +kernel
theorem dX11_full_7 : decode cX11_full 7 = .ok (.iconst 1, 1) := by decide +kernel
theorem dX11_full_8 : decode cX11_full 8 = .ok (.iadd, 1) := by decide +kernel
theorem dX11_full_9 : decode cX11_full 9 = .ok (.iastore, 1) := by decide +kernel
theorem dX11_full_10 : decode cX11_full 10 = .ok (.bipush (-4), 2) := by decide +kernel
theorem dX11_full_12 : decode cX11_full 12 = .ok (.ireturn, 1) := by decide +kernel
theorem dX11_isAlarm_0 : decode cX11_isAlarm 0 = .ok (.iload_n 1, 1) := by decide +kernel
theorem dX11_isAlarm_1 : decode cX11_isAlarm 1 = .ok (.iconst 0, 1) := by decide +kernel
theorem dX11_isAlarm_2 : decode cX11_isAlarm 2 = .ok (.aload_n 0, 1) := by decide +kernel
theorem dX11_isAlarm_3 : decode cX11_isAlarm 3 = .ok (.getfield 7, 3) := by decide +kernel
theorem dX11_isAlarm_6 : decode cX11_isAlarm 6 = .ok (.bipush 64, 2) := by decide +kernel
theorem dX11_isAlarm_8 : decode cX11_isAlarm 8 = .ok (.iaload, 1) := by decide +kernel
theorem dX11_isAlarm_9 : decode cX11_isAlarm 9 = .ok (.iconst 1, 1) := by decide +kernel
theorem dX11_isAlarm_10 : decode cX11_isAlarm 10 = .ok (.isub, 1) := by decide +kernel
theorem dX11_isAlarm_11 : decode cX11_isAlarm 11 = .ok (.invokestatic 52, 3) := by decide +kernel
theorem dX11_isAlarm_14 : decode cX11_isAlarm 14 = .ok (.ireturn, 1) := by decide +kernel
theorem dX11_isRoom_0 : decode cX11_isRoom 0 = .ok (.iload_n 0, 1) := by decide +kernel
theorem dX11_isRoom_1 : decode cX11_isRoom 1 = .ok (.iconst 0, 1) := by decide +kernel
theorem dX11_isRoom_2 : decode cX11_isRoom 2 = .ok (.bipush 7, 2) := by decide +kernel
theorem dX11_isRoom_4 : decode cX11_isRoom 4 = .ok (.invokestatic 52, 3) := by decide +kernel
theorem dX11_isRoom_7 : decode cX11_isRoom 7 = .ok (.ireturn, 1) := by decide +kernel
theorem dX11_house_0 : decode cX11_house 0 = .ok (.aload_n 0, 1) := by decide +kernel
theorem dX11_house_1 : decode cX11_house 1 = .ok (.getfield 7, 3) := by decide +kernel
theorem dX11_house_4 : decode cX11_house 4 = .ok (.bipush 64, 2) := by decide +kernel
theorem dX11_house_6 : decode cX11_house 6 = .ok (.iaload, 1) := by decide +kernel
theorem dX11_house_7 : decode cX11_house 7 = .ok (.istore_n 1, 1) := by decide +kernel
theorem dX11_house_8 : decode cX11_house 8 = .ok (.aload_n 0, 1) := by decide +kernel
theorem dX11_house_9 : decode cX11_house 9 = .ok (.getfield 7, 3) := by decide +kernel
theorem dX11_house_12 : decode cX11_house 12 = .ok (.invokestatic 48, 3) := by decide +kernel
theorem dX11_house_15 : decode cX11_house 15 = .ok (.iload_n 1, 1) := by decide +kernel
theorem dX11_house_16 : decode cX11_house 16 = .ok (.ireturn, 1) := by decide +kernel
theorem dX11_door_0 : decode cX11_door 0 = .ok (.iload_n 1, 1) := by decide +kernel
theorem dX11_door_1 : decode cX11_door 1 = .ok (.invokestatic 56, 3) := by decide +kernel
theorem dX11_door_4 : decode cX11_door 4 = .ok (.ifCond .eq 25, 3) := by decide +kernel
theorem dX11_door_7 : decode cX11_door 7 = .ok (.iload_n 2, 1) := by decide +kernel
theorem dX11_door_8 : decode cX11_door 8 = .ok (.invokestatic 56, 3) := by decide +kernel
theorem dX11_door_11 : decode cX11_door 11 = .ok (.ifCond .eq 18, 3) := by decide +kernel
theorem dX11_door_14 : decode cX11_door 14 = .ok (.iload_n 1, 1) := by decide +kernel
theorem dX11_door_15 : decode cX11_door 15 = .ok (.iload_n 2, 1) := by decide +kernel
theorem dX11_door_16 : decode cX11_door 16 = .ok (.if_icmp .eq 13, 3) := by decide +kernel
theorem dX11_door_19 : decode cX11_door 19 = .ok (.iload_n 3, 1) := by decide +kernel
theorem dX11_door_20 : decode cX11_door 20 = .ok (.iconst 1, 1) := by decide +kernel
theorem dX11_door_21 : decode cX11_door 21 = .ok (.bipush 9, 2) := by decide +kernel
theorem dX11_door_23 : decode cX11_door 23 = .ok (.invokestatic 52, 3) := by decide +kernel
theorem dX11_door_26 : decode cX11_door 26 = .ok (.ifCond .ne 16, 3) := by decide +kernel
theorem dX11_door_29 : decode cX11_door 29 = .ok (.aload_n 0, 1) := by decide +kernel
theorem dX11_door_30 : decode cX11_door 30 = .ok (.getfield 23, 3) := by decide +kernel
theorem dX11_door_33 : decode cX11_door 33 = .ok (.iconst 0, 1) := by decide +kernel
theorem dX11_door_34 : decode cX11_door 34 = .ok (.dup2, 1) := by decide +kernel
theorem dX11_door_35 : decode cX11_door 35 = .ok (.iaload, 1) := by decide +kernel
theorem dX11_door_36 : decode cX11_door 36 = .ok (.iconst 1, 1) := by decide +kernel
theorem dX11_door_37 : decode cX11_door 37 = .ok (.iadd, 1) := by decide +kernel
theorem dX11_door_38 : decode cX11_door 38 = .ok (.iastore, 1) := by decide +kernel
theorem dX11_door_39 : decode cX11_door 39 = .ok (.bipush (-10), 2) := by decide +kernel
theorem dX11_door_41 : decode cX11_door 41 = .ok (.ireturn, 1) := by decide +kernel
theorem dX11_door_42 : decode cX11_door 42 = .ok (.aload_n 0, 1) := by decide +kernel
theorem dX11_door_43 : decode cX11_door 43 = .ok (.getfield 7, 3) := by decide +kernel
theorem dX11_door_46 : decode cX11_door 46 = .ok (.bipush 8, 2) := by decide +kernel
theorem dX11_door_48 : decode cX11_door 48 = .ok (.iload_n 1, 1) := by decide +kernel
theorem dX11_door_49 : decode cX11_door 49 = .ok (.imul, 1) := by decide +kernel
theorem dX11_door_50 : decode cX11_door 50 = .ok (.iload_n 2, 1) := by decide +kernel
theorem dX11_door_51 : decode cX11_door 51 = .ok (.iadd, 1) := by decide +kernel
theorem dX11_door_52 : decode cX11_door 52 = .ok (.iaload, 1) := by decide +kernel
theorem dX11_door_53 : decode cX11_door 53 = .ok (.istore 4, 2) := by decide +kernel
theorem dX11_door_55 : decode cX11_door 55 = .ok (.aload_n 0, 1) := by decide +kernel
theorem dX11_door_56 : decode cX11_door 56 = .ok (.getfield 7, 3) := by decide +kernel
theorem dX11_door_59 : decode cX11_door 59 = .ok (.bipush 8, 2) := by decide +kernel
theorem dX11_door_61 : decode cX11_door 61 = .ok (.iload_n 1, 1) := by decide +kernel
theorem dX11_door_62 : decode cX11_door 62 = .ok (.imul, 1) := by decide +kernel
theorem dX11_door_63 : decode cX11_door 63 = .ok (.iload_n 2, 1) := by decide +kernel
theorem dX11_door_64 : decode cX11_door 64 = .ok (.iadd, 1) := by decide +kernel
theorem dX11_door_65 : decode cX11_door 65 = .ok (.iload_n 3, 1) := by decide +kernel
theorem dX11_door_66 : decode cX11_door 66 = .ok (.iastore, 1) := by decide +kernel
theorem dX11_door_67 : decode cX11_door 67 = .ok (.aload_n 0, 1) := by decide +kernel
theorem dX11_door_68 : decode cX11_door 68 = .ok (.getfield 7, 3) := by decide +kernel
theorem dX11_door_71 : decode cX11_door 71 = .ok (.bipush 8, 2) := by decide +kernel
theorem dX11_door_73 : decode cX11_door 73 = .ok (.iload_n 2, 1) := by decide +kernel
theorem dX11_door_74 : decode cX11_door 74 = .ok (.imul, 1) := by decide +kernel
theorem dX11_door_75 : decode cX11_door 75 = .ok (.iload_n 1, 1) := by decide +kernel
theorem dX11_door_76 : decode cX11_door 76 = .ok (.iadd, 1) := by decide +kernel
theorem dX11_door_77 : decode cX11_door 77 = .ok (.iload_n 3, 1) := by decide +kernel
theorem dX11_door_78 : decode cX11_door 78 = .ok (.iastore, 1) := by decide +kernel
theorem dX11_door_79 : decode cX11_door 79 = .ok (.iload 4, 2) := by decide +kernel
theorem dX11_door_81 : decode cX11_door 81 = .ok (.ifCond .ne 7, 3) := by decide +kernel
theorem dX11_door_84 : decode cX11_door 84 = .ok (.iconst (-1), 1) := by decide +kernel
theorem dX11_door_85 : decode cX11_door 85 = .ok (.goto 5, 3) := by decide +kernel
theorem dX11_door_88 : decode cX11_door 88 = .ok (.iload 4, 2) := by decide +kernel
theorem dX11_door_90 : decode cX11_door 90 = .ok (.ireturn, 1) := by decide +kernel
theorem dX11_addAlarm_0 : decode cX11_addAlarm 0 = .ok (.aload_n 0, 1) := by decide +kernel
theorem dX11_addAlarm_1 : decode cX11_addAlarm 1 = .ok (.bipush 64, 2) := by decide +kernel
theorem dX11_addAlarm_3 : decode cX11_addAlarm 3 = .ok (.iaload, 1) := by decide +kernel
theorem dX11_addAlarm_4 : decode cX11_addAlarm 4 = .ok (.istore 4, 2) := by decide +kernel
theorem dX11_addAlarm_6 : decode cX11_addAlarm 6 = .ok (.aload_n 0, 1) := by decide +kernel
theorem dX11_addAlarm_7 : decode cX11_addAlarm 7 = .ok (.bipush 65, 2) := by decide +kernel
theorem dX11_addAlarm_9 : decode cX11_addAlarm 9 = .ok (.iload 4, 2) := by decide +kernel
theorem dX11_addAlarm_11 : decode cX11_addAlarm 11 = .ok (.iadd, 1) := by decide +kernel
theorem dX11_addAlarm_12 : decode cX11_addAlarm 12 = .ok (.iload_n 1, 1) := by decide +kernel
theorem dX11_addAlarm_13 : decode cX11_addAlarm 13 = .ok (.iastore, 1) := by decide +kernel
theorem dX11_addAlarm_14 : decode cX11_addAlarm 14 = .ok (.aload_n 0, 1) := by decide +kernel
theorem dX11_addAlarm_15 : decode cX11_addAlarm 15 = .ok (.bipush 71, 2) := by decide +kernel
theorem dX11_addAlarm_17 : decode cX11_addAlarm 17 = .ok (.iload 4, 2) := by decide +kernel
theorem dX11_addAlarm_19 : decode cX11_addAlarm 19 = .ok (.iadd, 1) := by decide +kernel
theorem dX11_addAlarm_20 : decode cX11_addAlarm 20 = .ok (.iload_n 2, 1) := by decide +kernel
theorem dX11_addAlarm_21 : decode cX11_addAlarm 21 = .ok (.iastore, 1) := by decide +kernel
theorem dX11_addAlarm_22 : decode cX11_addAlarm 22 = .ok (.aload_n 0, 1) := by decide +kernel
theorem dX11_addAlarm_23 : decode cX11_addAlarm 23 = .ok (.bipush 94, 2) := by decide +kernel
theorem dX11_addAlarm_25 : decode cX11_addAlarm 25 = .ok (.iload 4, 2) := by decide +kernel
theorem dX11_addAlarm_27 : decode cX11_addAlarm 27 = .ok (.iadd, 1) := by decide +kernel
theorem dX11_addAlarm_28 : decode cX11_addAlarm 28 = .ok (.iload_n 3, 1) := by decide +kernel
theorem dX11_addAlarm_29 : decode cX11_addAlarm 29 = .ok (.iastore, 1) := by decide +kernel
theorem dX11_addAlarm_30 : decode cX11_addAlarm 30 = .ok (.aload_n 0, 1) := by decide +kernel
theorem dX11_addAlarm_31 : decode cX11_addAlarm 31 = .ok (.bipush 64, 2) := by decide +kernel
theorem dX11_addAlarm_33 : decode cX11_addAlarm 33 = .ok (.dup2, 1) := by decide +kernel
theorem dX11_addAlarm_34 : decode cX11_addAlarm 34 = .ok (.iaload, 1) := by decide +kernel
theorem dX11_addAlarm_35 : decode cX11_addAlarm 35 = .ok (.iconst 1, 1) := by decide +kernel
theorem dX11_addAlarm_36 : decode cX11_addAlarm 36 = .ok (.iadd, 1) := by decide +kernel
theorem dX11_addAlarm_37 : decode cX11_addAlarm 37 = .ok (.iastore, 1) := by decide +kernel
theorem dX11_addAlarm_38 : decode cX11_addAlarm 38 = .ok (.iload 4, 2) := by decide +kernel
theorem dX11_addAlarm_40 : decode cX11_addAlarm 40 = .ok (.ireturn, 1) := by decide +kernel
theorem dX11_alarm_0 : decode cX11_alarm 0 = .ok (.iload_n 1, 1) := by decide +kernel
theorem dX11_alarm_1 : decode cX11_alarm 1 = .ok (.iconst 0, 1) := by decide +kernel
theorem dX11_alarm_2 : decode cX11_alarm 2 = .ok (.iconst 5, 1) := by decide +kernel
theorem dX11_alarm_3 : decode cX11_alarm 3 = .ok (.invokestatic 52, 3) := by decide +kernel
theorem dX11_alarm_6 : decode cX11_alarm 6 = .ok (.ifCond .eq 20, 3) := by decide +kernel
theorem dX11_alarm_9 : decode cX11_alarm 9 = .ok (.iload_n 2, 1) := by decide +kernel
theorem dX11_alarm_10 : decode cX11_alarm 10 = .ok (.invokestatic 56, 3) := by decide +kernel
theorem dX11_alarm_13 : decode cX11_alarm 13 = .ok (.ifCond .eq 13, 3) := by decide +kernel
theorem dX11_alarm_16 : decode cX11_alarm 16 = .ok (.iload_n 3, 1) := by decide +kernel
theorem dX11_alarm_17 : decode cX11_alarm 17 = .ok (.iconst 0, 1) := by decide +kernel
theorem dX11_alarm_18 : decode cX11_alarm 18 = .ok (.bipush 99, 2) := by decide +kernel
theorem dX11_alarm_20 : decode cX11_alarm 20 = .ok (.invokestatic 52, 3) := by decide +kernel
theorem dX11_alarm_23 : decode cX11_alarm 23 = .ok (.ifCond .ne 8, 3) := by decide +kernel
theorem dX11_alarm_26 : decode cX11_alarm 26 = .ok (.aload_n 0, 1) := by decide +kernel
theorem dX11_alarm_27 : decode cX11_alarm 27 = .ok (.invokevirtual 60, 3) := by decide +kernel
theorem dX11_alarm_30 : decode cX11_alarm 30 = .ok (.ireturn, 1) := by decide +kernel
theorem dX11_alarm_31 : decode cX11_alarm 31 = .ok (.aload_n 0, 1) := by decide +kernel
theorem dX11_alarm_32 : decode cX11_alarm 32 = .ok (.getfield 7, 3) := by decide +kernel
theorem dX11_alarm_35 : decode cX11_alarm 35 = .ok (.bipush 64, 2) := by decide +kernel
theorem dX11_alarm_37 : decode cX11_alarm 37 = .ok (.iaload, 1) := by decide +kernel
theorem dX11_alarm_38 : decode cX11_alarm 38 = .ok (.bipush 6, 2) := by decide +kernel
theorem dX11_alarm_40 : decode cX11_alarm 40 = .ok (.if_icmp .ne 8, 3) := by decide +kernel
theorem dX11_alarm_43 : decode cX11_alarm 43 = .ok (.aload_n 0, 1) := by decide +kernel
theorem dX11_alarm_44 : decode cX11_alarm 44 = .ok (.invokevirtual 64, 3) := by decide +kernel
theorem dX11_alarm_47 : decode cX11_alarm 47 = .ok (.ireturn, 1) := by decide +kernel
theorem dX11_alarm_48 : decode cX11_alarm 48 = .ok (.aload_n 0, 1) := by decide +kernel
theorem dX11_alarm_49 : decode cX11_alarm 49 = .ok (.getfield 7, 3) := by decide +kernel
theorem dX11_alarm_52 : decode cX11_alarm 52 = .ok (.bipush 100, 2) := by decide +kernel
theorem dX11_alarm_54 : decode cX11_alarm 54 = .ok (.iconst 0, 1) := by decide +kernel
theorem dX11_alarm_55 : decode cX11_alarm 55 = .ok (.iastore, 1) := by decide +kernel
theorem dX11_alarm_56 : decode cX11_alarm 56 = .ok (.aload_n 0, 1) := by decide +kernel
theorem dX11_alarm_57 : decode cX11_alarm 57 = .ok (.getfield 7, 3) := by decide +kernel
theorem dX11_alarm_60 : decode cX11_alarm 60 = .ok (.iload_n 1, 1) := by decide +kernel
theorem dX11_alarm_61 : decode cX11_alarm 61 = .ok (.iload_n 2, 1) := by decide +kernel
theorem dX11_alarm_62 : decode cX11_alarm 62 = .ok (.iload_n 3, 1) := by decide +kernel
theorem dX11_alarm_63 : decode cX11_alarm 63 = .ok (.invokestatic 67, 3) := by decide +kernel
theorem dX11_alarm_66 : decode cX11_alarm 66 = .ok (.ireturn, 1) := by decide +kernel
theorem dX11_type_0 : decode cX11_type 0 = .ok (.iload_n 1, 1) := by decide +kernel
theorem dX11_type_1 : decode cX11_type 1 = .ok (.iconst 0, 1) := by decide +kernel
theorem dX11_type_2 : decode cX11_type 2 = .ok (.bipush 127, 2) := by decide +kernel
theorem dX11_type_4 : decode cX11_type 4 = .ok (.invokestatic 52, 3) := by decide +kernel
theorem dX11_type_7 : decode cX11_type 7 = .ok (.ifCond .ne 8, 3) := by decide +kernel
theorem dX11_type_10 : decode cX11_type 10 = .ok (.aload_n 0, 1) := by decide +kernel
theorem dX11_type_11 : decode cX11_type 11 = .ok (.invokevirtual 60, 3) := by decide +kernel
theorem dX11_type_14 : decode cX11_type 14 = .ok (.ireturn, 1) := by decide +kernel
theorem dX11_type_15 : decode cX11_type 15 = .ok (.aload_n 0, 1) := by decide +kernel
theorem dX11_type_16 : decode cX11_type 16 = .ok (.getfield 71, 3) := by decide +kernel
theorem dX11_type_19 : decode cX11_type 19 = .ok (.sipush 150, 3) := by decide +kernel
theorem dX11_type_22 : decode cX11_type 22 = .ok (.if_icmp .ne 8, 3) := by decide +kernel
theorem dX11_type_25 : decode cX11_type 25 = .ok (.aload_n 0, 1) := by decide +kernel
theorem dX11_type_26 : decode cX11_type 26 = .ok (.invokevirtual 64, 3) := by decide +kernel
theorem dX11_type_29 : decode cX11_type 29 = .ok (.ireturn, 1) := by decide +kernel
theorem dX11_type_30 : decode cX11_type 30 = .ok (.aload_n 0, 1) := by decide +kernel
theorem dX11_type_31 : decode cX11_type 31 = .ok (.getfield 30, 3) := by decide +kernel
theorem dX11_type_34 : decode cX11_type 34 = .ok (.aload_n 0, 1) := by decide +kernel
theorem dX11_type_35 : decode cX11_type 35 = .ok (.getfield 71, 3) := by decide +kernel
theorem dX11_type_38 : decode cX11_type 38 = .ok (.iload_n 1, 1) := by decide +kernel
theorem dX11_type_39 : decode cX11_type 39 = .ok (.iastore, 1) := by decide +kernel
theorem dX11_type_40 : decode cX11_type 40 = .ok (.aload_n 0, 1) := by decide +kernel
theorem dX11_type_41 : decode cX11_type 41 = .ok (.dup, 1) := by decide +kernel
theorem dX11_type_42 : decode cX11_type 42 = .ok (.getfield 71, 3) := by decide +kernel
theorem dX11_type_45 : decode cX11_type 45 = .ok (.iconst 1, 1) := by decide +kernel
theorem dX11_type_46 : decode cX11_type 46 = .ok (.iadd, 1) := by decide +kernel
theorem dX11_type_47 : decode cX11_type 47 = .ok (.putfield 71, 3) := by decide +kernel
theorem dX11_type_50 : decode cX11_type 50 = .ok (.aload_n 0, 1) := by decide +kernel
theorem dX11_type_51 : decode cX11_type 51 = .ok (.getfield 71, 3) := by decide +kernel
theorem dX11_type_54 : decode cX11_type 54 = .ok (.ireturn, 1) := by decide +kernel
theorem dX11_clear_0 : decode cX11_clear 0 = .ok (.aload_n 0, 1) := by decide +kernel
theorem dX11_clear_1 : decode cX11_clear 1 = .ok (.getfield 71, 3) := by decide +kernel
theorem dX11_clear_4 : decode cX11_clear 4 = .ok (.istore_n 1, 1) := by decide +kernel
theorem dX11_clear_5 : decode cX11_clear 5 = .ok (.aload_n 0, 1) := by decide +kernel
theorem dX11_clear_6 : decode cX11_clear 6 = .ok (.iconst 0, 1) := by decide +kernel
theorem dX11_clear_7 : decode cX11_clear 7 = .ok (.putfield 71, 3) := by decide +kernel
theorem dX11_clear_10 : decode cX11_clear 10 = .ok (.iload_n 1, 1) := by decide +kernel
theorem dX11_clear_11 : decode cX11_clear 11 = .ok (.ireturn, 1) := by decide +kernel
theorem dX11_kindAt_0 : decode cX11_kindAt 0 = .ok (.iload_n 1, 1) := by decide +kernel
theorem dX11_kindAt_1 : decode cX11_kindAt 1 = .ok (.aload_n 0, 1) := by decide +kernel
theorem dX11_kindAt_2 : decode cX11_kindAt 2 = .ok (.getfield 71, 3) := by decide +kernel
theorem dX11_kindAt_5 : decode cX11_kindAt 5 = .ok (.if_icmp .ge 12, 3) := by decide +kernel
theorem dX11_kindAt_8 : decode cX11_kindAt 8 = .ok (.aload_n 0, 1) := by decide +kernel
theorem dX11_kindAt_9 : decode cX11_kindAt 9 = .ok (.getfield 30, 3) := by decide +kernel
theorem dX11_kindAt_12 : decode cX11_kindAt 12 = .ok (.iload_n 1, 1) := by decide +kernel
theorem dX11_kindAt_13 : decode cX11_kindAt 13 = .ok (.iaload, 1) := by decide +kernel
theorem dX11_kindAt_14 : decode cX11_kindAt 14 = .ok (.goto 4, 3) := by decide +kernel
theorem dX11_kindAt_17 : decode cX11_kindAt 17 = .ok (.iconst 0, 1) := by decide +kernel
theorem dX11_kindAt_18 : decode cX11_kindAt 18 = .ok (.istore_n 2, 1) := by decide +kernel
theorem dX11_kindAt_19 : decode cX11_kindAt 19 = .ok (.iload_n 2, 1) := by decide +kernel
theorem dX11_kindAt_20 : decode cX11_kindAt 20 = .ok (.bipush 97, 2) := by decide +kernel
theorem dX11_kindAt_22 : decode cX11_kindAt 22 = .ok (.bipush 122, 2) := by decide +kernel
theorem dX11_kindAt_24 : decode cX11_kindAt 24 = .ok (.invokestatic 52, 3) := by decide +kernel
theorem dX11_kindAt_27 : decode cX11_kindAt 27 = .ok (.ifCond .eq 7, 3) := by decide +kernel
theorem dX11_kindAt_30 : decode cX11_kindAt 30 = .ok (.iconst 1, 1) := by decide +kernel
theorem dX11_kindAt_31 : decode cX11_kindAt 31 = .ok (.goto 19, 3) := by decide +kernel
theorem dX11_kindAt_34 : decode cX11_kindAt 34 = .ok (.iload_n 2, 1) := by decide +kernel
theorem dX11_kindAt_35 : decode cX11_kindAt 35 = .ok (.bipush 48, 2) := by decide +kernel
theorem dX11_kindAt_37 : decode cX11_kindAt 37 = .ok (.bipush 57, 2) := by decide +kernel
theorem dX11_kindAt_39 : decode cX11_kindAt 39 = .ok (.invokestatic 52, 3) := by decide +kernel
theorem dX11_kindAt_42 : decode cX11_kindAt 42 = .ok (.ifCond .eq 7, 3) := by decide +kernel
theorem dX11_kindAt_45 : decode cX11_kindAt 45 = .ok (.iconst 2, 1) := by decide +kernel
theorem dX11_kindAt_46 : decode cX11_kindAt 46 = .ok (.goto 4, 3) := by decide +kernel
theorem dX11_kindAt_49 : decode cX11_kindAt 49 = .ok (.iconst 0, 1) := by decide +kernel
theorem dX11_kindAt_50 : decode cX11_kindAt 50 = .ok (.ireturn, 1) := by decide +kernel
theorem dX11_nextToken_0 : decode cX11_nextToken 0 = .ok (.aload_n 0, 1) := by decide +kernel
theorem dX11_nextToken_1 : decode cX11_nextToken 1 = .ok (.getfield 75, 3) := by decide +kernel
theorem dX11_nextToken_4 : decode cX11_nextToken 4 = .ok (.aload_n 0, 1) := by decide +kernel
theorem dX11_nextToken_5 : decode cX11_nextToken 5 = .ok (.getfield 71, 3) := by decide +kernel
theorem dX11_nextToken_8 : decode cX11_nextToken 8 = .ok (.if_icmp .ge 30, 3) := by decide +kernel
theorem dX11_nextToken_11 : decode cX11_nextToken 11 = .ok (.aload_n 0, 1) := by decide +kernel
theorem dX11_nextToken_12 : decode cX11_nextToken 12 = .ok (.getfield 30, 3) := by decide +kernel
theorem dX11_nextToken_15 : decode cX11_nextToken 15 = .ok (.aload_n 0, 1) := by decide +kernel
theorem dX11_nextToken_16 : decode cX11_nextToken 16 = .ok (.getfield 75, 3) := by decide +kernel
theorem dX11_nextToken_19 : decode cX11_nextToken 19 = .ok (.iaload, 1) := by decide +kernel
theorem dX11_nextToken_20 : decode cX11_nextToken 20 = .ok (.bipush 32, 2) := by decide +kernel
theorem dX11_nextToken_22 : decode cX11_nextToken 22 = .ok (.if_icmp .ne 16, 3) := by decide +kernel
theorem dX11_nextToken_25 : decode cX11_nextToken 25 = .ok (.aload_n 0, 1) := by decide +kernel
theorem dX11_nextToken_26 : decode cX11_nextToken 26 = .ok (.dup, 1) := by decide +kernel
