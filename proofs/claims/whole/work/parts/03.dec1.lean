theorem dX7_worstPart_57 : decode cX7_worstPart 57 = .ok (.istore_n 3, 1) := by decide +kernel
theorem dX7_worstPart_58 : decode cX7_worstPart 58 = .ok (.iinc 4 1, 3) := by decide +kernel
theorem dX7_worstPart_61 : decode cX7_worstPart 61 = .ok (.goto (-56), 3) := by decide +kernel
theorem dX7_worstPart_64 : decode cX7_worstPart 64 = .ok (.iload_n 3, 1) := by decide +kernel
theorem dX7_worstPart_65 : decode cX7_worstPart 65 = .ok (.ireturn, 1) := by decide +kernel
theorem dX7_roomOfSmallestGroups_0 : decode cX7_roomOfSmallestGroups 0 = .ok (.iconst 0, 1) := by decide +kernel
theorem dX7_roomOfSmallestGroups_1 : decode cX7_roomOfSmallestGroups 1 = .ok (.istore_n 2, 1) := by decide +kernel
theorem dX7_roomOfSmallestGroups_2 : decode cX7_roomOfSmallestGroups 2 = .ok (.aload_n 0, 1) := by decide +kernel
theorem dX7_roomOfSmallestGroups_3 : decode cX7_roomOfSmallestGroups 3 = .ok (.iload_n 1, 1) := by decide +kernel
theorem dX7_roomOfSmallestGroups_4 : decode cX7_roomOfSmallestGroups 4 = .ok (.iconst 0, 1) := by decide +kernel
theorem dX7_roomOfSmallestGroups_5 : decode cX7_roomOfSmallestGroups 5 = .ok (.invokevirtual 65, 3) := by decide +kernel
theorem dX7_roomOfSmallestGroups_8 : decode cX7_roomOfSmallestGroups 8 = .ok (.istore_n 3, 1) := by decide +kernel
theorem dX7_roomOfSmallestGroups_9 : decode cX7_roomOfSmallestGroups 9 = .ok (.iconst 1, 1) := by decide +kernel
theorem dX7_roomOfSmallestGroups_10 : decode cX7_roomOfSmallestGroups 10 = .ok (.istore 4, 2) := by decide +kernel
theorem dX7_roomOfSmallestGroups_12 : decode cX7_roomOfSmallestGroups 12 = .ok (.iload 4, 2) := by decide +kernel
theorem dX7_roomOfSmallestGroups_14 : decode cX7_roomOfSmallestGroups 14 = .ok (.bipush 8, 2) := by decide +kernel
theorem dX7_roomOfSmallestGroups_16 : decode cX7_roomOfSmallestGroups 16 = .ok (.if_icmp .ge 30, 3) := by decide +kernel
theorem dX7_roomOfSmallestGroups_19 : decode cX7_roomOfSmallestGroups 19 = .ok (.aload_n 0, 1) := by decide +kernel
theorem dX7_roomOfSmallestGroups_20 : decode cX7_roomOfSmallestGroups 20 = .ok (.iload_n 1, 1) := by decide +kernel
theorem dX7_roomOfSmallestGroups_21 : decode cX7_roomOfSmallestGroups 21 = .ok (.iload 4, 2) := by decide +kernel
theorem dX7_roomOfSmallestGroups_23 : decode cX7_roomOfSmallestGroups 23 = .ok (.invokevirtual 65, 3) := by decide +kernel
theorem dX7_roomOfSmallestGroups_26 : decode cX7_roomOfSmallestGroups 26 = .ok (.istore 5, 2) := by decide +kernel
theorem dX7_roomOfSmallestGroups_28 : decode cX7_roomOfSmallestGroups 28 = .ok (.iload 5, 2) := by decide +kernel
theorem dX7_roomOfSmallestGroups_30 : decode cX7_roomOfSmallestGroups 30 = .ok (.iload_n 3, 1) := by decide +kernel
theorem dX7_roomOfSmallestGroups_31 : decode cX7_roomOfSmallestGroups 31 = .ok (.if_icmp .ge 9, 3) := by decide +kernel
theorem dX7_roomOfSmallestGroups_34 : decode cX7_roomOfSmallestGroups 34 = .ok (.iload 4, 2) := by decide +kernel
theorem dX7_roomOfSmallestGroups_36 : decode cX7_roomOfSmallestGroups 36 = .ok (.istore_n 2, 1) := by decide +kernel
theorem dX7_roomOfSmallestGroups_37 : decode cX7_roomOfSmallestGroups 37 = .ok (.iload 5, 2) := by decide +kernel
theorem dX7_roomOfSmallestGroups_39 : decode cX7_roomOfSmallestGroups 39 = .ok (.istore_n 3, 1) := by decide +kernel
theorem dX7_roomOfSmallestGroups_40 : decode cX7_roomOfSmallestGroups 40 = .ok (.iinc 4 1, 3) := by decide +kernel
theorem dX7_roomOfSmallestGroups_43 : decode cX7_roomOfSmallestGroups 43 = .ok (.goto (-31), 3) := by decide +kernel
theorem dX7_roomOfSmallestGroups_46 : decode cX7_roomOfSmallestGroups 46 = .ok (.iload_n 2, 1) := by decide +kernel
theorem dX7_roomOfSmallestGroups_47 : decode cX7_roomOfSmallestGroups 47 = .ok (.ireturn, 1) := by decide +kernel
theorem dX7_greatestGroup_0 : decode cX7_greatestGroup 0 = .ok (.iconst 0, 1) := by decide +kernel
theorem dX7_greatestGroup_1 : decode cX7_greatestGroup 1 = .ok (.istore_n 3, 1) := by decide +kernel
theorem dX7_greatestGroup_2 : decode cX7_greatestGroup 2 = .ok (.iconst 0, 1) := by decide +kernel
theorem dX7_greatestGroup_3 : decode cX7_greatestGroup 3 = .ok (.istore 4, 2) := by decide +kernel
theorem dX7_greatestGroup_5 : decode cX7_greatestGroup 5 = .ok (.iload 4, 2) := by decide +kernel
theorem dX7_greatestGroup_7 : decode cX7_greatestGroup 7 = .ok (.bipush 6, 2) := by decide +kernel
theorem dX7_greatestGroup_9 : decode cX7_greatestGroup 9 = .ok (.if_icmp .ge 40, 3) := by decide +kernel
theorem dX7_greatestGroup_12 : decode cX7_greatestGroup 12 = .ok (.iload_n 1, 1) := by decide +kernel
theorem dX7_greatestGroup_13 : decode cX7_greatestGroup 13 = .ok (.iload 4, 2) := by decide +kernel
theorem dX7_greatestGroup_15 : decode cX7_greatestGroup 15 = .ok (.invokestatic 56, 3) := by decide +kernel
theorem dX7_greatestGroup_18 : decode cX7_greatestGroup 18 = .ok (.ifCond .eq 25, 3) := by decide +kernel
theorem dX7_greatestGroup_21 : decode cX7_greatestGroup 21 = .ok (.iload_n 3, 1) := by decide +kernel
theorem dX7_greatestGroup_22 : decode cX7_greatestGroup 22 = .ok (.iload_n 1, 1) := by decide +kernel
theorem dX7_greatestGroup_23 : decode cX7_greatestGroup 23 = .ok (.aload_n 0, 1) := by decide +kernel
theorem dX7_greatestGroup_24 : decode cX7_greatestGroup 24 = .ok (.getfield 9, 3) := by decide +kernel
theorem dX7_greatestGroup_27 : decode cX7_greatestGroup 27 = .ok (.iload_n 2, 1) := by decide +kernel
theorem dX7_greatestGroup_28 : decode cX7_greatestGroup 28 = .ok (.bipush 6, 2) := by decide +kernel
theorem dX7_greatestGroup_30 : decode cX7_greatestGroup 30 = .ok (.imul, 1) := by decide +kernel
theorem dX7_greatestGroup_31 : decode cX7_greatestGroup 31 = .ok (.iload 4, 2) := by decide +kernel
theorem dX7_greatestGroup_33 : decode cX7_greatestGroup 33 = .ok (.iadd, 1) := by decide +kernel
theorem dX7_greatestGroup_34 : decode cX7_greatestGroup 34 = .ok (.iaload, 1) := by decide +kernel
theorem dX7_greatestGroup_35 : decode cX7_greatestGroup 35 = .ok (.iand, 1) := by decide +kernel
theorem dX7_greatestGroup_36 : decode cX7_greatestGroup 36 = .ok (.invokestatic 47, 3) := by decide +kernel
theorem dX7_greatestGroup_39 : decode cX7_greatestGroup 39 = .ok (.invokestatic 60, 3) := by decide +kernel
theorem dX7_greatestGroup_42 : decode cX7_greatestGroup 42 = .ok (.istore_n 3, 1) := by decide +kernel
theorem dX7_greatestGroup_43 : decode cX7_greatestGroup 43 = .ok (.iinc 4 1, 3) := by decide +kernel
theorem dX7_greatestGroup_46 : decode cX7_greatestGroup 46 = .ok (.goto (-41), 3) := by decide +kernel
theorem dX7_greatestGroup_49 : decode cX7_greatestGroup 49 = .ok (.iload_n 3, 1) := by decide +kernel
theorem dX7_greatestGroup_50 : decode cX7_greatestGroup 50 = .ok (.ireturn, 1) := by decide +kernel
theorem dX7_findTargets_0 : decode cX7_findTargets 0 = .ok (.aload_n 0, 1) := by decide +kernel
theorem dX7_findTargets_1 : decode cX7_findTargets 1 = .ok (.iconst 0, 1) := by decide +kernel
theorem dX7_findTargets_2 : decode cX7_findTargets 2 = .ok (.putfield 68, 3) := by decide +kernel
theorem dX7_findTargets_5 : decode cX7_findTargets 5 = .ok (.iconst 0, 1) := by decide +kernel
theorem dX7_findTargets_6 : decode cX7_findTargets 6 = .ok (.istore_n 2, 1) := by decide +kernel
theorem dX7_findTargets_7 : decode cX7_findTargets 7 = .ok (.iload_n 2, 1) := by decide +kernel
theorem dX7_findTargets_8 : decode cX7_findTargets 8 = .ok (.aload_n 1, 1) := by decide +kernel
theorem dX7_findTargets_9 : decode cX7_findTargets 9 = .ok (.getfield 33, 3) := by decide +kernel
theorem dX7_findTargets_12 : decode cX7_findTargets 12 = .ok (.if_icmp .ge 91, 3) := by decide +kernel
theorem dX7_findTargets_15 : decode cX7_findTargets 15 = .ok (.aload_n 1, 1) := by decide +kernel
theorem dX7_findTargets_16 : decode cX7_findTargets 16 = .ok (.iload_n 2, 1) := by decide +kernel
theorem dX7_findTargets_17 : decode cX7_findTargets 17 = .ok (.invokevirtual 71, 3) := by decide +kernel
theorem dX7_findTargets_20 : decode cX7_findTargets 20 = .ok (.astore_n 3, 1) := by decide +kernel
theorem dX7_findTargets_21 : decode cX7_findTargets 21 = .ok (.aload_n 1, 1) := by decide +kernel
theorem dX7_findTargets_22 : decode cX7_findTargets 22 = .ok (.getfield 75, 3) := by decide +kernel
theorem dX7_findTargets_25 : decode cX7_findTargets 25 = .ok (.getfield 79, 3) := by decide +kernel
theorem dX7_findTargets_28 : decode cX7_findTargets 28 = .ok (.iload_n 2, 1) := by decide +kernel
theorem dX7_findTargets_29 : decode cX7_findTargets 29 = .ok (.invokestatic 56, 3) := by decide +kernel
theorem dX7_findTargets_32 : decode cX7_findTargets 32 = .ok (.ifCond .ne 14, 3) := by decide +kernel
theorem dX7_findTargets_35 : decode cX7_findTargets 35 = .ok (.aload_n 3, 1) := by decide +kernel
theorem dX7_findTargets_36 : decode cX7_findTargets 36 = .ok (.invokevirtual 84, 3) := by decide +kernel
theorem dX7_findTargets_39 : decode cX7_findTargets 39 = .ok (.ifCond .ne 7, 3) := by decide +kernel
theorem dX7_findTargets_42 : decode cX7_findTargets 42 = .ok (.iconst 1, 1) := by decide +kernel
theorem dX7_findTargets_43 : decode cX7_findTargets 43 = .ok (.goto 4, 3) := by decide +kernel
theorem dX7_findTargets_46 : decode cX7_findTargets 46 = .ok (.iconst 0, 1) := by decide +kernel
theorem dX7_findTargets_47 : decode cX7_findTargets 47 = .ok (.istore 4, 2) := by decide +kernel
theorem dX7_findTargets_49 : decode cX7_findTargets 49 = .ok (.iload 4, 2) := by decide +kernel
theorem dX7_findTargets_51 : decode cX7_findTargets 51 = .ok (.ifCond .eq 46, 3) := by decide +kernel
theorem dX7_findTargets_54 : decode cX7_findTargets 54 = .ok (.aload_n 3, 1) := by decide +kernel
theorem dX7_findTargets_55 : decode cX7_findTargets 55 = .ok (.aload_n 1, 1) := by decide +kernel
theorem dX7_findTargets_56 : decode cX7_findTargets 56 = .ok (.getfield 75, 3) := by decide +kernel
theorem dX7_findTargets_59 : decode cX7_findTargets 59 = .ok (.getfield 90, 3) := by decide +kernel
theorem dX7_findTargets_62 : decode cX7_findTargets 62 = .ok (.aload_n 1, 1) := by decide +kernel
theorem dX7_findTargets_63 : decode cX7_findTargets 63 = .ok (.getfield 75, 3) := by decide +kernel
theorem dX7_findTargets_66 : decode cX7_findTargets 66 = .ok (.getfield 93, 3) := by decide +kernel
theorem dX7_findTargets_69 : decode cX7_findTargets 69 = .ok (.iload_n 2, 1) := by decide +kernel
theorem dX7_findTargets_70 : decode cX7_findTargets 70 = .ok (.iaload, 1) := by decide +kernel
theorem dX7_findTargets_71 : decode cX7_findTargets 71 = .ok (.invokevirtual 96, 3) := by decide +kernel
theorem dX7_findTargets_74 : decode cX7_findTargets 74 = .ok (.ifCond .eq 23, 3) := by decide +kernel
theorem dX7_findTargets_77 : decode cX7_findTargets 77 = .ok (.aload_n 0, 1) := by decide +kernel
theorem dX7_findTargets_78 : decode cX7_findTargets 78 = .ok (.getfield 24, 3) := by decide +kernel
theorem dX7_findTargets_81 : decode cX7_findTargets 81 = .ok (.aload_n 0, 1) := by decide +kernel
theorem dX7_findTargets_82 : decode cX7_findTargets 82 = .ok (.getfield 68, 3) := by decide +kernel
theorem dX7_findTargets_85 : decode cX7_findTargets 85 = .ok (.iload_n 2, 1) := by decide +kernel
theorem dX7_findTargets_86 : decode cX7_findTargets 86 = .ok (.iastore, 1) := by decide +kernel
theorem dX7_findTargets_87 : decode cX7_findTargets 87 = .ok (.aload_n 0, 1) := by decide +kernel
theorem dX7_findTargets_88 : decode cX7_findTargets 88 = .ok (.dup, 1) := by decide +kernel
theorem dX7_findTargets_89 : decode cX7_findTargets 89 = .ok (.getfield 68, 3) := by decide +kernel
theorem dX7_findTargets_92 : decode cX7_findTargets 92 = .ok (.iconst 1, 1) := by decide +kernel
theorem dX7_findTargets_93 : decode cX7_findTargets 93 = .ok (.iadd, 1) := by decide +kernel
theorem dX7_findTargets_94 : decode cX7_findTargets 94 = .ok (.putfield 68, 3) := by decide +kernel
theorem dX7_findTargets_97 : decode cX7_findTargets 97 = .ok (.iinc 2 1, 3) := by decide +kernel
theorem dX7_findTargets_100 : decode cX7_findTargets 100 = .ok (.goto (-93), 3) := by decide +kernel
theorem dX7_findTargets_103 : decode cX7_findTargets 103 = .ok (.return_, 1) := by decide +kernel
theorem dX7_measureLegs_0 : decode cX7_measureLegs 0 = .ok (.iconst 0, 1) := by decide +kernel
theorem dX7_measureLegs_1 : decode cX7_measureLegs 1 = .ok (.istore_n 2, 1) := by decide +kernel
theorem dX7_measureLegs_2 : decode cX7_measureLegs 2 = .ok (.iload_n 2, 1) := by decide +kernel
theorem dX7_measureLegs_3 : decode cX7_measureLegs 3 = .ok (.aload_n 0, 1) := by decide +kernel
theorem dX7_measureLegs_4 : decode cX7_measureLegs 4 = .ok (.getfield 68, 3) := by decide +kernel
theorem dX7_measureLegs_7 : decode cX7_measureLegs 7 = .ok (.if_icmp .ge 89, 3) := by decide +kernel
theorem dX7_measureLegs_10 : decode cX7_measureLegs 10 = .ok (.aload_n 1, 1) := by decide +kernel
theorem dX7_measureLegs_11 : decode cX7_measureLegs 11 = .ok (.getfield 99, 3) := by decide +kernel
theorem dX7_measureLegs_14 : decode cX7_measureLegs 14 = .ok (.aload_n 0, 1) := by decide +kernel
theorem dX7_measureLegs_15 : decode cX7_measureLegs 15 = .ok (.getfield 24, 3) := by decide +kernel
theorem dX7_measureLegs_18 : decode cX7_measureLegs 18 = .ok (.iload_n 2, 1) := by decide +kernel
theorem dX7_measureLegs_19 : decode cX7_measureLegs 19 = .ok (.iaload, 1) := by decide +kernel
theorem dX7_measureLegs_20 : decode cX7_measureLegs 20 = .ok (.iaload, 1) := by decide +kernel
theorem dX7_measureLegs_21 : decode cX7_measureLegs 21 = .ok (.istore_n 3, 1) := by decide +kernel
theorem dX7_measureLegs_22 : decode cX7_measureLegs 22 = .ok (.aload_n 0, 1) := by decide +kernel
theorem dX7_measureLegs_23 : decode cX7_measureLegs 23 = .ok (.getfield 27, 3) := by decide +kernel
theorem dX7_measureLegs_26 : decode cX7_measureLegs 26 = .ok (.bipush 36, 2) := by decide +kernel
theorem dX7_measureLegs_28 : decode cX7_measureLegs 28 = .ok (.iload_n 2, 1) := by decide +kernel
theorem dX7_measureLegs_29 : decode cX7_measureLegs 29 = .ok (.iadd, 1) := by decide +kernel
theorem dX7_measureLegs_30 : decode cX7_measureLegs 30 = .ok (.aload_n 1, 1) := by decide +kernel
theorem dX7_measureLegs_31 : decode cX7_measureLegs 31 = .ok (.aload_n 1, 1) := by decide +kernel
theorem dX7_measureLegs_32 : decode cX7_measureLegs 32 = .ok (.getfield 75, 3) := by decide +kernel
theorem dX7_measureLegs_35 : decode cX7_measureLegs 35 = .ok (.getfield 102, 3) := by decide +kernel
theorem dX7_measureLegs_38 : decode cX7_measureLegs 38 = .ok (.iload_n 3, 1) := by decide +kernel
theorem dX7_measureLegs_39 : decode cX7_measureLegs 39 = .ok (.invokevirtual 105, 3) := by decide +kernel
theorem dX7_measureLegs_42 : decode cX7_measureLegs 42 = .ok (.iastore, 1) := by decide +kernel
theorem dX7_measureLegs_43 : decode cX7_measureLegs 43 = .ok (.iconst 0, 1) := by decide +kernel
theorem dX7_measureLegs_44 : decode cX7_measureLegs 44 = .ok (.istore 4, 2) := by decide +kernel
theorem dX7_measureLegs_46 : decode cX7_measureLegs 46 = .ok (.iload 4, 2) := by decide +kernel
theorem dX7_measureLegs_48 : decode cX7_measureLegs 48 = .ok (.aload_n 0, 1) := by decide +kernel
theorem dX7_measureLegs_49 : decode cX7_measureLegs 49 = .ok (.getfield 68, 3) := by decide +kernel
theorem dX7_measureLegs_52 : decode cX7_measureLegs 52 = .ok (.if_icmp .ge 38, 3) := by decide +kernel
theorem dX7_measureLegs_55 : decode cX7_measureLegs 55 = .ok (.aload_n 0, 1) := by decide +kernel
theorem dX7_measureLegs_56 : decode cX7_measureLegs 56 = .ok (.getfield 27, 3) := by decide +kernel
theorem dX7_measureLegs_59 : decode cX7_measureLegs 59 = .ok (.iload 4, 2) := by decide +kernel
theorem dX7_measureLegs_61 : decode cX7_measureLegs 61 = .ok (.bipush 6, 2) := by decide +kernel
theorem dX7_measureLegs_63 : decode cX7_measureLegs 63 = .ok (.imul, 1) := by decide +kernel
theorem dX7_measureLegs_64 : decode cX7_measureLegs 64 = .ok (.iload_n 2, 1) := by decide +kernel
theorem dX7_measureLegs_65 : decode cX7_measureLegs 65 = .ok (.iadd, 1) := by decide +kernel
theorem dX7_measureLegs_66 : decode cX7_measureLegs 66 = .ok (.aload_n 1, 1) := by decide +kernel
theorem dX7_measureLegs_67 : decode cX7_measureLegs 67 = .ok (.aload_n 1, 1) := by decide +kernel
theorem dX7_measureLegs_68 : decode cX7_measureLegs 68 = .ok (.getfield 99, 3) := by decide +kernel
theorem dX7_measureLegs_71 : decode cX7_measureLegs 71 = .ok (.aload_n 0, 1) := by decide +kernel
theorem dX7_measureLegs_72 : decode cX7_measureLegs 72 = .ok (.getfield 24, 3) := by decide +kernel
theorem dX7_measureLegs_75 : decode cX7_measureLegs 75 = .ok (.iload 4, 2) := by decide +kernel
theorem dX7_measureLegs_77 : decode cX7_measureLegs 77 = .ok (.iaload, 1) := by decide +kernel
theorem dX7_measureLegs_78 : decode cX7_measureLegs 78 = .ok (.iaload, 1) := by decide +kernel
theorem dX7_measureLegs_79 : decode cX7_measureLegs 79 = .ok (.iload_n 3, 1) := by decide +kernel
theorem dX7_measureLegs_80 : decode cX7_measureLegs 80 = .ok (.invokevirtual 105, 3) := by decide +kernel
theorem dX7_measureLegs_83 : decode cX7_measureLegs 83 = .ok (.iastore, 1) := by decide +kernel
theorem dX7_measureLegs_84 : decode cX7_measureLegs 84 = .ok (.iinc 4 1, 3) := by decide +kernel
theorem dX7_measureLegs_87 : decode cX7_measureLegs 87 = .ok (.goto (-41), 3) := by decide +kernel
theorem dX7_measureLegs_90 : decode cX7_measureLegs 90 = .ok (.iinc 2 1, 3) := by decide +kernel
theorem dX7_measureLegs_93 : decode cX7_measureLegs 93 = .ok (.goto (-91), 3) := by decide +kernel
theorem dX7_measureLegs_96 : decode cX7_measureLegs 96 = .ok (.return_, 1) := by decide +kernel
theorem dX7_allJoined_0 : decode cX7_allJoined 0 = .ok (.iconst 0, 1) := by decide +kernel
theorem dX7_allJoined_1 : decode cX7_allJoined 1 = .ok (.istore_n 1, 1) := by decide +kernel
theorem dX7_allJoined_2 : decode cX7_allJoined 2 = .ok (.iload_n 1, 1) := by decide +kernel
theorem dX7_allJoined_3 : decode cX7_allJoined 3 = .ok (.aload_n 0, 1) := by decide +kernel
theorem dX7_allJoined_4 : decode cX7_allJoined 4 = .ok (.getfield 68, 3) := by decide +kernel
theorem dX7_allJoined_7 : decode cX7_allJoined 7 = .ok (.if_icmp .ge 26, 3) := by decide +kernel
theorem dX7_allJoined_10 : decode cX7_allJoined 10 = .ok (.aload_n 0, 1) := by decide +kernel
theorem dX7_allJoined_11 : decode cX7_allJoined 11 = .ok (.getfield 27, 3) := by decide +kernel
theorem dX7_allJoined_14 : decode cX7_allJoined 14 = .ok (.bipush 36, 2) := by decide +kernel
theorem dX7_allJoined_16 : decode cX7_allJoined 16 = .ok (.iload_n 1, 1) := by decide +kernel
theorem dX7_allJoined_17 : decode cX7_allJoined 17 = .ok (.iadd, 1) := by decide +kernel
theorem dX7_allJoined_18 : decode cX7_allJoined 18 = .ok (.iaload, 1) := by decide +kernel
theorem dX7_allJoined_19 : decode cX7_allJoined 19 = .ok (.sipush 1000, 3) := by decide +kernel
theorem dX7_allJoined_22 : decode cX7_allJoined 22 = .ok (.if_icmp .lt 5, 3) := by decide +kernel
theorem dX7_allJoined_25 : decode cX7_allJoined 25 = .ok (.iconst 0, 1) := by decide +kernel
theorem dX7_allJoined_26 : decode cX7_allJoined 26 = .ok (.ireturn, 1) := by decide +kernel
theorem dX7_allJoined_27 : decode cX7_allJoined 27 = .ok (.iinc 1 1, 3) := by decide +kernel
theorem dX7_allJoined_30 : decode cX7_allJoined 30 = .ok (.goto (-28), 3) := by decide +kernel
theorem dX7_allJoined_33 : decode cX7_allJoined 33 = .ok (.iconst 1, 1) := by decide +kernel
theorem dX7_allJoined_34 : decode cX7_allJoined 34 = .ok (.ireturn, 1) := by decide +kernel
theorem dX7_fillRest_0 : decode cX7_fillRest 0 = .ok (.iconst 1, 1) := by decide +kernel
theorem dX7_fillRest_1 : decode cX7_fillRest 1 = .ok (.istore_n 1, 1) := by decide +kernel
theorem dX7_fillRest_2 : decode cX7_fillRest 2 = .ok (.iload_n 1, 1) := by decide +kernel
theorem dX7_fillRest_3 : decode cX7_fillRest 3 = .ok (.iconst 1, 1) := by decide +kernel
theorem dX7_fillRest_4 : decode cX7_fillRest 4 = .ok (.aload_n 0, 1) := by decide +kernel
theorem dX7_fillRest_5 : decode cX7_fillRest 5 = .ok (.getfield 68, 3) := by decide +kernel
theorem dX7_fillRest_8 : decode cX7_fillRest 8 = .ok (.ishl, 1) := by decide +kernel
theorem dX7_fillRest_9 : decode cX7_fillRest 9 = .ok (.if_icmp .ge 50, 3) := by decide +kernel
theorem dX7_fillRest_12 : decode cX7_fillRest 12 = .ok (.iconst 0, 1) := by decide +kernel
theorem dX7_fillRest_13 : decode cX7_fillRest 13 = .ok (.istore_n 2, 1) := by decide +kernel
theorem dX7_fillRest_14 : decode cX7_fillRest 14 = .ok (.iload_n 2, 1) := by decide +kernel
theorem dX7_fillRest_15 : decode cX7_fillRest 15 = .ok (.aload_n 0, 1) := by decide +kernel
theorem dX7_fillRest_16 : decode cX7_fillRest 16 = .ok (.getfield 68, 3) := by decide +kernel
theorem dX7_fillRest_19 : decode cX7_fillRest 19 = .ok (.if_icmp .ge 34, 3) := by decide +kernel
theorem dX7_fillRest_22 : decode cX7_fillRest 22 = .ok (.iload_n 1, 1) := by decide +kernel
theorem dX7_fillRest_23 : decode cX7_fillRest 23 = .ok (.iload_n 2, 1) := by decide +kernel
theorem dX7_fillRest_24 : decode cX7_fillRest 24 = .ok (.invokestatic 56, 3) := by decide +kernel
theorem dX7_fillRest_27 : decode cX7_fillRest 27 = .ok (.ifCond .ne 20, 3) := by decide +kernel
theorem dX7_fillRest_30 : decode cX7_fillRest 30 = .ok (.aload_n 0, 1) := by decide +kernel
theorem dX7_fillRest_31 : decode cX7_fillRest 31 = .ok (.getfield 30, 3) := by decide +kernel
theorem dX7_fillRest_34 : decode cX7_fillRest 34 = .ok (.iload_n 1, 1) := by decide +kernel
theorem dX7_fillRest_35 : decode cX7_fillRest 35 = .ok (.bipush 6, 2) := by decide +kernel
theorem dX7_fillRest_37 : decode cX7_fillRest 37 = .ok (.imul, 1) := by decide +kernel
theorem dX7_fillRest_38 : decode cX7_fillRest 38 = .ok (.iload_n 2, 1) := by decide +kernel
theorem dX7_fillRest_39 : decode cX7_fillRest 39 = .ok (.iadd, 1) := by decide +kernel
theorem dX7_fillRest_40 : decode cX7_fillRest 40 = .ok (.aload_n 0, 1) := by decide +kernel
theorem dX7_fillRest_41 : decode cX7_fillRest 41 = .ok (.iload_n 1, 1) := by decide +kernel
theorem dX7_fillRest_42 : decode cX7_fillRest 42 = .ok (.iload_n 2, 1) := by decide +kernel
theorem dX7_fillRest_43 : decode cX7_fillRest 43 = .ok (.invokevirtual 108, 3) := by decide +kernel
theorem dX7_fillRest_46 : decode cX7_fillRest 46 = .ok (.iastore, 1) := by decide +kernel
theorem dX7_fillRest_47 : decode cX7_fillRest 47 = .ok (.iinc 2 1, 3) := by decide +kernel
theorem dX7_fillRest_50 : decode cX7_fillRest 50 = .ok (.goto (-36), 3) := by decide +kernel
theorem dX7_fillRest_53 : decode cX7_fillRest 53 = .ok (.iinc 1 1, 3) := by decide +kernel
theorem dX7_fillRest_56 : decode cX7_fillRest 56 = .ok (.goto (-54), 3) := by decide +kernel
theorem dX7_fillRest_59 : decode cX7_fillRest 59 = .ok (.return_, 1) := by decide +kernel
theorem dX7_leastFrom_0 : decode cX7_leastFrom 0 = .ok (.iload_n 1, 1) := by decide +kernel
theorem dX7_leastFrom_1 : decode cX7_leastFrom 1 = .ok (.ifCond .ne 7, 3) := by decide +kernel
theorem dX7_leastFrom_4 : decode cX7_leastFrom 4 = .ok (.iconst 0, 1) := by decide +kernel
theorem dX7_leastFrom_5 : decode cX7_leastFrom 5 = .ok (.goto 6, 3) := by decide +kernel
theorem dX7_leastFrom_8 : decode cX7_leastFrom 8 = .ok (.sipush 1000, 3) := by decide +kernel
theorem dX7_leastFrom_11 : decode cX7_leastFrom 11 = .ok (.istore_n 3, 1) := by decide +kernel
theorem dX7_leastFrom_12 : decode cX7_leastFrom 12 = .ok (.iconst 0, 1) := by decide +kernel
theorem dX7_leastFrom_13 : decode cX7_leastFrom 13 = .ok (.istore 4, 2) := by decide +kernel
theorem dX7_leastFrom_15 : decode cX7_leastFrom 15 = .ok (.iload 4, 2) := by decide +kernel
theorem dX7_leastFrom_17 : decode cX7_leastFrom 17 = .ok (.aload_n 0, 1) := by decide +kernel
theorem dX7_leastFrom_18 : decode cX7_leastFrom 18 = .ok (.getfield 68, 3) := by decide +kernel
theorem dX7_leastFrom_21 : decode cX7_leastFrom 21 = .ok (.if_icmp .ge 31, 3) := by decide +kernel
theorem dX7_leastFrom_24 : decode cX7_leastFrom 24 = .ok (.iload_n 1, 1) := by decide +kernel
theorem dX7_leastFrom_25 : decode cX7_leastFrom 25 = .ok (.iload 4, 2) := by decide +kernel
theorem dX7_leastFrom_27 : decode cX7_leastFrom 27 = .ok (.invokestatic 56, 3) := by decide +kernel
theorem dX7_leastFrom_30 : decode cX7_leastFrom 30 = .ok (.ifCond .eq 16, 3) := by decide +kernel
theorem dX7_leastFrom_33 : decode cX7_leastFrom 33 = .ok (.iload_n 3, 1) := by decide +kernel
theorem dX7_leastFrom_34 : decode cX7_leastFrom 34 = .ok (.aload_n 0, 1) := by decide +kernel
theorem dX7_leastFrom_35 : decode cX7_leastFrom 35 = .ok (.iload_n 1, 1) := by decide +kernel
theorem dX7_leastFrom_36 : decode cX7_leastFrom 36 = .ok (.iload_n 2, 1) := by decide +kernel
theorem dX7_leastFrom_37 : decode cX7_leastFrom 37 = .ok (.iload 4, 2) := by decide +kernel
theorem dX7_leastFrom_39 : decode cX7_leastFrom 39 = .ok (.invokevirtual 111, 3) := by decide +kernel
theorem dX7_leastFrom_42 : decode cX7_leastFrom 42 = .ok (.invokestatic 115, 3) := by decide +kernel
theorem dX7_leastFrom_45 : decode cX7_leastFrom 45 = .ok (.istore_n 3, 1) := by decide +kernel
theorem dX7_leastFrom_46 : decode cX7_leastFrom 46 = .ok (.iinc 4 1, 3) := by decide +kernel
theorem dX7_leastFrom_49 : decode cX7_leastFrom 49 = .ok (.goto (-34), 3) := by decide +kernel
theorem dX7_leastFrom_52 : decode cX7_leastFrom 52 = .ok (.iload_n 3, 1) := by decide +kernel
theorem dX7_leastFrom_53 : decode cX7_leastFrom 53 = .ok (.ireturn, 1) := by decide +kernel
theorem dX7_leastBy_0 : decode cX7_leastBy 0 = .ok (.aload_n 0, 1) := by decide +kernel
theorem dX7_leastBy_1 : decode cX7_leastBy 1 = .ok (.getfield 27, 3) := by decide +kernel
theorem dX7_leastBy_4 : decode cX7_leastBy 4 = .ok (.iload_n 2, 1) := by decide +kernel
theorem dX7_leastBy_5 : decode cX7_leastBy 5 = .ok (.bipush 6, 2) := by decide +kernel
theorem dX7_leastBy_7 : decode cX7_leastBy 7 = .ok (.imul, 1) := by decide +kernel
theorem dX7_leastBy_8 : decode cX7_leastBy 8 = .ok (.iload_n 3, 1) := by decide +kernel
theorem dX7_leastBy_9 : decode cX7_leastBy 9 = .ok (.iadd, 1) := by decide +kernel
theorem dX7_leastBy_10 : decode cX7_leastBy 10 = .ok (.iaload, 1) := by decide +kernel
theorem dX7_leastBy_11 : decode cX7_leastBy 11 = .ok (.aload_n 0, 1) := by decide +kernel
theorem dX7_leastBy_12 : decode cX7_leastBy 12 = .ok (.getfield 30, 3) := by decide +kernel
theorem dX7_leastBy_15 : decode cX7_leastBy 15 = .ok (.iload_n 1, 1) := by decide +kernel
theorem dX7_leastBy_16 : decode cX7_leastBy 16 = .ok (.iconst 1, 1) := by decide +kernel
theorem dX7_leastBy_17 : decode cX7_leastBy 17 = .ok (.iload_n 3, 1) := by decide +kernel
theorem dX7_leastBy_18 : decode cX7_leastBy 18 = .ok (.ishl, 1) := by decide +kernel
theorem dX7_leastBy_19 : decode cX7_leastBy 19 = .ok (.iconst (-1), 1) := by decide +kernel
theorem dX7_leastBy_20 : decode cX7_leastBy 20 = .ok (.ixor, 1) := by decide +kernel
theorem dX7_leastBy_21 : decode cX7_leastBy 21 = .ok (.iand, 1) := by decide +kernel
theorem dX7_leastBy_22 : decode cX7_leastBy 22 = .ok (.bipush 6, 2) := by decide +kernel
theorem dX7_leastBy_24 : decode cX7_leastBy 24 = .ok (.imul, 1) := by decide +kernel
theorem dX7_leastBy_25 : decode cX7_leastBy 25 = .ok (.iload_n 3, 1) := by decide +kernel
theorem dX7_leastBy_26 : decode cX7_leastBy 26 = .ok (.iadd, 1) := by decide +kernel
theorem dX7_leastBy_27 : decode cX7_leastBy 27 = .ok (.iaload, 1) := by decide +kernel
theorem dX7_leastBy_28 : decode cX7_leastBy 28 = .ok (.iadd, 1) := by decide +kernel
theorem dX7_leastBy_29 : decode cX7_leastBy 29 = .ok (.ireturn, 1) := by decide +kernel
theorem dX7_wholeWay_0 : decode cX7_wholeWay 0 = .ok (.aload_n 0, 1) := by decide +kernel
theorem dX7_wholeWay_1 : decode cX7_wholeWay 1 = .ok (.iconst 1, 1) := by decide +kernel
theorem dX7_wholeWay_2 : decode cX7_wholeWay 2 = .ok (.aload_n 0, 1) := by decide +kernel
theorem dX7_wholeWay_3 : decode cX7_wholeWay 3 = .ok (.getfield 68, 3) := by decide +kernel
theorem dX7_wholeWay_6 : decode cX7_wholeWay 6 = .ok (.ishl, 1) := by decide +kernel
theorem dX7_wholeWay_7 : decode cX7_wholeWay 7 = .ok (.iconst 1, 1) := by decide +kernel
theorem dX7_wholeWay_8 : decode cX7_wholeWay 8 = .ok (.isub, 1) := by decide +kernel
theorem dX7_wholeWay_9 : decode cX7_wholeWay 9 = .ok (.bipush 6, 2) := by decide +kernel
theorem dX7_wholeWay_11 : decode cX7_wholeWay 11 = .ok (.invokevirtual 108, 3) := by decide +kernel
theorem dX7_wholeWay_14 : decode cX7_wholeWay 14 = .ok (.ireturn, 1) := by decide +kernel
theorem dX7_targetAt_0 : decode cX7_targetAt 0 = .ok (.iconst 1, 1) := by decide +kernel
theorem dX7_targetAt_1 : decode cX7_targetAt 1 = .ok (.aload_n 0, 1) := by decide +kernel
theorem dX7_targetAt_2 : decode cX7_targetAt 2 = .ok (.getfield 68, 3) := by decide +kernel
theorem dX7_targetAt_5 : decode cX7_targetAt 5 = .ok (.ishl, 1) := by decide +kernel
theorem dX7_targetAt_6 : decode cX7_targetAt 6 = .ok (.iconst 1, 1) := by decide +kernel
theorem dX7_targetAt_7 : decode cX7_targetAt 7 = .ok (.isub, 1) := by decide +kernel
theorem dX7_targetAt_8 : decode cX7_targetAt 8 = .ok (.istore_n 2, 1) := by decide +kernel
theorem dX7_targetAt_9 : decode cX7_targetAt 9 = .ok (.bipush 6, 2) := by decide +kernel
theorem dX7_targetAt_11 : decode cX7_targetAt 11 = .ok (.istore_n 3, 1) := by decide +kernel
theorem dX7_targetAt_12 : decode cX7_targetAt 12 = .ok (.iconst 0, 1) := by decide +kernel
theorem dX7_targetAt_13 : decode cX7_targetAt 13 = .ok (.istore 4, 2) := by decide +kernel
theorem dX7_targetAt_15 : decode cX7_targetAt 15 = .ok (.iload 4, 2) := by decide +kernel
theorem dX7_targetAt_17 : decode cX7_targetAt 17 = .ok (.iload_n 1, 1) := by decide +kernel
theorem dX7_targetAt_18 : decode cX7_targetAt 18 = .ok (.if_icmp .gt 28, 3) := by decide +kernel
theorem dX7_targetAt_21 : decode cX7_targetAt 21 = .ok (.iload_n 2, 1) := by decide +kernel
theorem dX7_targetAt_22 : decode cX7_targetAt 22 = .ok (.ifCond .eq 24, 3) := by decide +kernel
theorem dX7_targetAt_25 : decode cX7_targetAt 25 = .ok (.aload_n 0, 1) := by decide +kernel
theorem dX7_targetAt_26 : decode cX7_targetAt 26 = .ok (.iload_n 2, 1) := by decide +kernel
theorem dX7_targetAt_27 : decode cX7_targetAt 27 = .ok (.iload_n 3, 1) := by decide +kernel
theorem dX7_targetAt_28 : decode cX7_targetAt 28 = .ok (.invokevirtual 118, 3) := by decide +kernel
theorem dX7_targetAt_31 : decode cX7_targetAt 31 = .ok (.istore_n 3, 1) := by decide +kernel
theorem dX7_targetAt_32 : decode cX7_targetAt 32 = .ok (.iload_n 2, 1) := by decide +kernel
theorem dX7_targetAt_33 : decode cX7_targetAt 33 = .ok (.iconst 1, 1) := by decide +kernel
theorem dX7_targetAt_34 : decode cX7_targetAt 34 = .ok (.iload_n 3, 1) := by decide +kernel
theorem dX7_targetAt_35 : decode cX7_targetAt 35 = .ok (.ishl, 1) := by decide +kernel
theorem dX7_targetAt_36 : decode cX7_targetAt 36 = .ok (.iconst (-1), 1) := by decide +kernel
theorem dX7_targetAt_37 : decode cX7_targetAt 37 = .ok (.ixor, 1) := by decide +kernel
theorem dX7_targetAt_38 : decode cX7_targetAt 38 = .ok (.iand, 1) := by decide +kernel
theorem dX7_targetAt_39 : decode cX7_targetAt 39 = .ok (.istore_n 2, 1) := by decide +kernel
theorem dX7_targetAt_40 : decode cX7_targetAt 40 = .ok (.iinc 4 1, 3) := by decide +kernel
theorem dX7_targetAt_43 : decode cX7_targetAt 43 = .ok (.goto (-28), 3) := by decide +kernel
theorem dX7_targetAt_46 : decode cX7_targetAt 46 = .ok (.iload_n 3, 1) := by decide +kernel
theorem dX7_targetAt_47 : decode cX7_targetAt 47 = .ok (.aload_n 0, 1) := by decide +kernel
theorem dX7_targetAt_48 : decode cX7_targetAt 48 = .ok (.getfield 68, 3) := by decide +kernel
theorem dX7_targetAt_51 : decode cX7_targetAt 51 = .ok (.if_icmp .ge 12, 3) := by decide +kernel
theorem dX7_targetAt_54 : decode cX7_targetAt 54 = .ok (.aload_n 0, 1) := by decide +kernel
theorem dX7_targetAt_55 : decode cX7_targetAt 55 = .ok (.getfield 24, 3) := by decide +kernel
theorem dX7_targetAt_58 : decode cX7_targetAt 58 = .ok (.iload_n 3, 1) := by decide +kernel
theorem dX7_targetAt_59 : decode cX7_targetAt 59 = .ok (.iaload, 1) := by decide +kernel
theorem dX7_targetAt_60 : decode cX7_targetAt 60 = .ok (.goto 4, 3) := by decide +kernel
theorem dX7_targetAt_63 : decode cX7_targetAt 63 = .ok (.iconst (-1), 1) := by decide +kernel
theorem dX7_targetAt_64 : decode cX7_targetAt 64 = .ok (.ireturn, 1) := by decide +kernel
theorem dX7_firstOfLeast_0 : decode cX7_firstOfLeast 0 = .ok (.aload_n 0, 1) := by decide +kernel
theorem dX7_firstOfLeast_1 : decode cX7_firstOfLeast 1 = .ok (.iload_n 1, 1) := by decide +kernel
theorem dX7_firstOfLeast_2 : decode cX7_firstOfLeast 2 = .ok (.iload_n 2, 1) := by decide +kernel
theorem dX7_firstOfLeast_3 : decode cX7_firstOfLeast 3 = .ok (.invokevirtual 108, 3) := by decide +kernel
theorem dX7_firstOfLeast_6 : decode cX7_firstOfLeast 6 = .ok (.istore_n 3, 1) := by decide +kernel
theorem dX7_firstOfLeast_7 : decode cX7_firstOfLeast 7 = .ok (.iconst 0, 1) := by decide +kernel
theorem dX7_firstOfLeast_8 : decode cX7_firstOfLeast 8 = .ok (.istore 4, 2) := by decide +kernel
theorem dX7_firstOfLeast_10 : decode cX7_firstOfLeast 10 = .ok (.aload_n 0, 1) := by decide +kernel
theorem dX7_firstOfLeast_11 : decode cX7_firstOfLeast 11 = .ok (.getfield 68, 3) := by decide +kernel
theorem dX7_firstOfLeast_14 : decode cX7_firstOfLeast 14 = .ok (.iconst 1, 1) := by decide +kernel
theorem dX7_firstOfLeast_15 : decode cX7_firstOfLeast 15 = .ok (.isub, 1) := by decide +kernel
theorem dX7_firstOfLeast_16 : decode cX7_firstOfLeast 16 = .ok (.istore 5, 2) := by decide +kernel
theorem dX7_firstOfLeast_18 : decode cX7_firstOfLeast 18 = .ok (.iload 5, 2) := by decide +kernel
theorem dX7_firstOfLeast_20 : decode cX7_firstOfLeast 20 = .ok (.ifCond .lt 34, 3) := by decide +kernel
theorem dX7_firstOfLeast_23 : decode cX7_firstOfLeast 23 = .ok (.iload_n 1, 1) := by decide +kernel
theorem dX7_firstOfLeast_24 : decode cX7_firstOfLeast 24 = .ok (.iload 5, 2) := by decide +kernel
theorem dX7_firstOfLeast_26 : decode cX7_firstOfLeast 26 = .ok (.invokestatic 56, 3) := by decide +kernel
theorem dX7_firstOfLeast_29 : decode cX7_firstOfLeast 29 = .ok (.ifCond .eq 19, 3) := by decide +kernel
theorem dX7_firstOfLeast_32 : decode cX7_firstOfLeast 32 = .ok (.aload_n 0, 1) := by decide +kernel
theorem dX7_firstOfLeast_33 : decode cX7_firstOfLeast 33 = .ok (.iload_n 1, 1) := by decide +kernel
theorem dX7_firstOfLeast_34 : decode cX7_firstOfLeast 34 = .ok (.iload_n 2, 1) := by decide +kernel
theorem dX7_firstOfLeast_35 : decode cX7_firstOfLeast 35 = .ok (.iload 5, 2) := by decide +kernel
theorem dX7_firstOfLeast_37 : decode cX7_firstOfLeast 37 = .ok (.invokevirtual 111, 3) := by decide +kernel
theorem dX7_firstOfLeast_40 : decode cX7_firstOfLeast 40 = .ok (.iload_n 3, 1) := by decide +kernel
theorem dX7_firstOfLeast_41 : decode cX7_firstOfLeast 41 = .ok (.if_icmp .ne 7, 3) := by decide +kernel
theorem dX7_firstOfLeast_44 : decode cX7_firstOfLeast 44 = .ok (.iload 5, 2) := by decide +kernel
theorem dX7_firstOfLeast_46 : decode cX7_firstOfLeast 46 = .ok (.istore 4, 2) := by decide +kernel
theorem dX7_firstOfLeast_48 : decode cX7_firstOfLeast 48 = .ok (.iinc 5 (-1), 3) := by decide +kernel
theorem dX7_firstOfLeast_51 : decode cX7_firstOfLeast 51 = .ok (.goto (-33), 3) := by decide +kernel
theorem dX7_firstOfLeast_54 : decode cX7_firstOfLeast 54 = .ok (.iload 4, 2) := by decide +kernel
theorem dX7_firstOfLeast_56 : decode cX7_firstOfLeast 56 = .ok (.ireturn, 1) := by decide +kernel
theorem dX8_init_0 : decode cX8_init 0 = .ok (.aload_n 0, 1) := by decide +kernel
theorem dX8_init_1 : decode cX8_init 1 = .ok (.invokespecial 3, 3) := by decide +kernel
theorem dX8_init_4 : decode cX8_init 4 = .ok (.aload_n 0, 1) := by decide +kernel
theorem dX8_init_5 : decode cX8_init 5 = .ok (.sipush 150, 3) := by decide +kernel
theorem dX8_init_8 : decode cX8_init 8 = .ok (.newarray .char, 2) := by decide +kernel
theorem dX8_init_10 : decode cX8_init 10 = .ok (.putfield 9, 3) := by decide +kernel
theorem dX8_init_13 : decode cX8_init 13 = .ok (.return_, 1) := by decide +kernel
theorem dX8_add_0 : decode cX8_add 0 = .ok (.aload_n 0, 1) := by decide +kernel
theorem dX8_add_1 : decode cX8_add 1 = .ok (.getfield 15, 3) := by decide +kernel
theorem dX8_add_4 : decode cX8_add 4 = .ok (.aload_n 0, 1) := by decide +kernel
theorem dX8_add_5 : decode cX8_add 5 = .ok (.getfield 9, 3) := by decide +kernel
theorem dX8_add_8 : decode cX8_add 8 = .ok (.arraylength, 1) := by decide +kernel
theorem dX8_add_9 : decode cX8_add 9 = .ok (.if_icmp .ge 23, 3) := by decide +kernel
theorem dX8_add_12 : decode cX8_add 12 = .ok (.aload_n 0, 1) := by decide +kernel
theorem dX8_add_13 : decode cX8_add 13 = .ok (.getfield 9, 3) := by decide +kernel
theorem dX8_add_16 : decode cX8_add 16 = .ok (.aload_n 0, 1) := by decide +kernel
theorem dX8_add_17 : decode cX8_add 17 = .ok (.getfield 15, 3) := by decide +kernel
theorem dX8_add_20 : decode cX8_add 20 = .ok (.iload_n 1, 1) := by decide +kernel
theorem dX8_add_21 : decode cX8_add 21 = .ok (.castore, 1) := by decide +kernel
theorem dX8_add_22 : decode cX8_add 22 = .ok (.aload_n 0, 1) := by decide +kernel
theorem dX8_add_23 : decode cX8_add 23 = .ok (.dup, 1) := by decide +kernel
theorem dX8_add_24 : decode cX8_add 24 = .ok (.getfield 15, 3) := by decide +kernel
theorem dX8_add_27 : decode cX8_add 27 = .ok (.iconst 1, 1) := by decide +kernel
theorem dX8_add_28 : decode cX8_add 28 = .ok (.iadd, 1) := by decide +kernel
theorem dX8_add_29 : decode cX8_add 29 = .ok (.putfield 15, 3) := by decide +kernel
theorem dX8_add_32 : decode cX8_add 32 = .ok (.return_, 1) := by decide +kernel
theorem dX8_tell_0 : decode cX8_tell 0 = .ok (.aload_n 0, 1) := by decide +kernel
theorem dX8_tell_1 : decode cX8_tell 1 = .ok (.iconst 0, 1) := by decide +kernel
theorem dX8_tell_2 : decode cX8_tell 2 = .ok (.putfield 19, 3) := by decide +kernel
theorem dX8_tell_5 : decode cX8_tell 5 = .ok (.aload_n 0, 1) := by decide +kernel
theorem dX8_tell_6 : decode cX8_tell 6 = .ok (.invokevirtual 22, 3) := by decide +kernel
theorem dX8_tell_9 : decode cX8_tell 9 = .ok (.iconst 0, 1) := by decide +kernel
theorem dX8_tell_10 : decode cX8_tell 10 = .ok (.istore_n 2, 1) := by decide +kernel
theorem dX8_tell_11 : decode cX8_tell 11 = .ok (.iload_n 2, 1) := by decide +kernel
theorem dX8_tell_12 : decode cX8_tell 12 = .ok (.sipush 150, 3) := by decide +kernel
theorem dX8_tell_15 : decode cX8_tell 15 = .ok (.if_icmp .ge 42, 3) := by decide +kernel
theorem dX8_tell_18 : decode cX8_tell 18 = .ok (.iload_n 2, 1) := by decide +kernel
theorem dX8_tell_19 : decode cX8_tell 19 = .ok (.ifCond .le 12, 3) := by decide +kernel
theorem dX8_tell_22 : decode cX8_tell 22 = .ok (.aload_n 0, 1) := by decide +kernel
theorem dX8_tell_23 : decode cX8_tell 23 = .ok (.getfield 25, 3) := by decide +kernel
theorem dX8_tell_26 : decode cX8_tell 26 = .ok (.ifCond .ne 5, 3) := by decide +kernel
theorem dX8_tell_29 : decode cX8_tell 29 = .ok (.iload_n 2, 1) := by decide +kernel
theorem dX8_tell_30 : decode cX8_tell 30 = .ok (.ireturn, 1) := by decide +kernel
theorem dX8_tell_31 : decode cX8_tell 31 = .ok (.aload_n 0, 1) := by decide +kernel
theorem dX8_tell_32 : decode cX8_tell 32 = .ok (.aload_n 1, 1) := by decide +kernel
theorem dX8_tell_33 : decode cX8_tell 33 = .ok (.iload_n 2, 1) := by decide +kernel
theorem dX8_tell_34 : decode cX8_tell 34 = .ok (.ifCond .ne 7, 3) := by decide +kernel
theorem dX8_tell_37 : decode cX8_tell 37 = .ok (.iconst 1, 1) := by decide +kernel
theorem dX8_tell_38 : decode cX8_tell 38 = .ok (.goto 4, 3) := by decide +kernel
theorem dX8_tell_41 : decode cX8_tell 41 = .ok (.iconst 0, 1) := by decide +kernel
theorem dX8_tell_42 : decode cX8_tell 42 = .ok (.invokevirtual 28, 3) := by decide +kernel
theorem dX8_tell_45 : decode cX8_tell 45 = .ok (.ifCond .ne 6, 3) := by decide +kernel
theorem dX8_tell_48 : decode cX8_tell 48 = .ok (.goto 9, 3) := by decide +kernel
theorem dX8_tell_51 : decode cX8_tell 51 = .ok (.iinc 2 1, 3) := by decide +kernel
theorem dX8_tell_54 : decode cX8_tell 54 = .ok (.goto (-43), 3) := by decide +kernel
theorem dX8_tell_57 : decode cX8_tell 57 = .ok (.bipush (-10), 2) := by decide +kernel
theorem dX8_tell_59 : decode cX8_tell 59 = .ok (.aload_n 0, 1) := by decide +kernel
theorem dX8_tell_60 : decode cX8_tell 60 = .ok (.getfield 32, 3) := by decide +kernel
theorem dX8_tell_63 : decode cX8_tell 63 = .ok (.isub, 1) := by decide +kernel
theorem dX8_tell_64 : decode cX8_tell 64 = .ok (.ireturn, 1) := by decide +kernel
theorem dX8_item_0 : decode cX8_item 0 = .ok (.aload_n 0, 1) := by decide +kernel
theorem dX8_item_1 : decode cX8_item 1 = .ok (.ldc 35, 2) := by decide +kernel
theorem dX8_item_3 : decode cX8_item 3 = .ok (.invokevirtual 37, 3) := by decide +kernel
theorem dX8_item_6 : decode cX8_item 6 = .ok (.ifCond .eq 21, 3) := by decide +kernel
theorem dX8_item_9 : decode cX8_item 9 = .ok (.iload_n 2, 1) := by decide +kernel
theorem dX8_item_10 : decode cX8_item 10 = .ok (.ifCond .eq 15, 3) := by decide +kernel
theorem dX8_item_13 : decode cX8_item 13 = .ok (.aload_n 0, 1) := by decide +kernel
theorem dX8_item_14 : decode cX8_item 14 = .ok (.aload_n 1, 1) := by decide +kernel
theorem dX8_item_15 : decode cX8_item 15 = .ok (.invokevirtual 41, 3) := by decide +kernel
theorem dX8_item_18 : decode cX8_item 18 = .ok (.ifCond .eq 7, 3) := by decide +kernel
theorem dX8_item_21 : decode cX8_item 21 = .ok (.iconst 1, 1) := by decide +kernel
theorem dX8_item_22 : decode cX8_item 22 = .ok (.goto 4, 3) := by decide +kernel
theorem dX8_item_25 : decode cX8_item 25 = .ok (.iconst 0, 1) := by decide +kernel
theorem dX8_item_26 : decode cX8_item 26 = .ok (.ireturn, 1) := by decide +kernel
theorem dX8_item_27 : decode cX8_item 27 = .ok (.iload_n 2, 1) := by decide +kernel
theorem dX8_item_28 : decode cX8_item 28 = .ok (.ifCond .eq 5, 3) := by decide +kernel
theorem dX8_item_31 : decode cX8_item 31 = .ok (.iconst 0, 1) := by decide +kernel
theorem dX8_item_32 : decode cX8_item 32 = .ok (.ireturn, 1) := by decide +kernel
theorem dX8_item_33 : decode cX8_item 33 = .ok (.aload_n 0, 1) := by decide +kernel
theorem dX8_item_34 : decode cX8_item 34 = .ok (.ldc 45, 2) := by decide +kernel
theorem dX8_item_36 : decode cX8_item 36 = .ok (.invokevirtual 37, 3) := by decide +kernel
theorem dX8_item_39 : decode cX8_item 39 = .ok (.ifCond .eq 9, 3) := by decide +kernel
theorem dX8_item_42 : decode cX8_item 42 = .ok (.aload_n 0, 1) := by decide +kernel
theorem dX8_item_43 : decode cX8_item 43 = .ok (.aload_n 1, 1) := by decide +kernel
theorem dX8_item_44 : decode cX8_item 44 = .ok (.invokevirtual 47, 3) := by decide +kernel
theorem dX8_item_47 : decode cX8_item 47 = .ok (.ireturn, 1) := by decide +kernel
theorem dX8_item_48 : decode cX8_item 48 = .ok (.aload_n 0, 1) := by decide +kernel
theorem dX8_item_49 : decode cX8_item 49 = .ok (.ldc 50, 2) := by decide +kernel
theorem dX8_item_51 : decode cX8_item 51 = .ok (.invokevirtual 37, 3) := by decide +kernel
theorem dX8_item_54 : decode cX8_item 54 = .ok (.ifCond .eq 26, 3) := by decide +kernel
theorem dX8_item_57 : decode cX8_item 57 = .ok (.aload_n 1, 1) := by decide +kernel
theorem dX8_item_58 : decode cX8_item 58 = .ok (.getfield 52, 3) := by decide +kernel
theorem dX8_item_61 : decode cX8_item 61 = .ok (.bipush 6, 2) := by decide +kernel
theorem dX8_item_63 : decode cX8_item 63 = .ok (.if_icmp .ge 15, 3) := by decide +kernel
theorem dX8_item_66 : decode cX8_item 66 = .ok (.aload_n 0, 1) := by decide +kernel
theorem dX8_item_67 : decode cX8_item 67 = .ok (.aload_n 1, 1) := by decide +kernel
theorem dX8_item_68 : decode cX8_item 68 = .ok (.invokevirtual 57, 3) := by decide +kernel
theorem dX8_item_71 : decode cX8_item 71 = .ok (.ifCond .eq 7, 3) := by decide +kernel
theorem dX8_item_74 : decode cX8_item 74 = .ok (.iconst 1, 1) := by decide +kernel
theorem dX8_item_75 : decode cX8_item 75 = .ok (.goto 4, 3) := by decide +kernel
theorem dX8_item_78 : decode cX8_item 78 = .ok (.iconst 0, 1) := by decide +kernel
theorem dX8_item_79 : decode cX8_item 79 = .ok (.ireturn, 1) := by decide +kernel
theorem dX8_item_80 : decode cX8_item 80 = .ok (.aload_n 0, 1) := by decide +kernel
theorem dX8_item_81 : decode cX8_item 81 = .ok (.ldc 60, 2) := by decide +kernel
theorem dX8_item_83 : decode cX8_item 83 = .ok (.invokevirtual 37, 3) := by decide +kernel
theorem dX8_item_86 : decode cX8_item 86 = .ok (.ifCond .eq 15, 3) := by decide +kernel
theorem dX8_item_89 : decode cX8_item 89 = .ok (.aload_n 0, 1) := by decide +kernel
theorem dX8_item_90 : decode cX8_item 90 = .ok (.aload_n 1, 1) := by decide +kernel
theorem dX8_item_91 : decode cX8_item 91 = .ok (.invokevirtual 62, 3) := by decide +kernel
theorem dX8_item_94 : decode cX8_item 94 = .ok (.ifCond .eq 7, 3) := by decide +kernel
theorem dX8_item_97 : decode cX8_item 97 = .ok (.iconst 1, 1) := by decide +kernel
theorem dX8_item_98 : decode cX8_item 98 = .ok (.goto 4, 3) := by decide +kernel
theorem dX8_item_101 : decode cX8_item 101 = .ok (.iconst 0, 1) := by decide +kernel
theorem dX8_item_102 : decode cX8_item 102 = .ok (.ireturn, 1) := by decide +kernel
theorem dX8_houseItem_0 : decode cX8_houseItem 0 = .ok (.aload_n 0, 1) := by decide +kernel
theorem dX8_houseItem_1 : decode cX8_houseItem 1 = .ok (.invokevirtual 22, 3) := by decide +kernel
theorem dX8_houseItem_4 : decode cX8_houseItem 4 = .ok (.aload_n 0, 1) := by decide +kernel
theorem dX8_houseItem_5 : decode cX8_houseItem 5 = .ok (.iconst 0, 1) := by decide +kernel
theorem dX8_houseItem_6 : decode cX8_houseItem 6 = .ok (.bipush 9, 2) := by decide +kernel
theorem dX8_houseItem_8 : decode cX8_houseItem 8 = .ok (.invokevirtual 65, 3) := by decide +kernel
theorem dX8_houseItem_11 : decode cX8_houseItem 11 = .ok (.istore_n 2, 1) := by decide +kernel
theorem dX8_houseItem_12 : decode cX8_houseItem 12 = .ok (.iload_n 2, 1) := by decide +kernel
theorem dX8_houseItem_13 : decode cX8_houseItem 13 = .ok (.iconst (-1), 1) := by decide +kernel
theorem dX8_houseItem_14 : decode cX8_houseItem 14 = .ok (.if_icmp .eq 10, 3) := by decide +kernel
theorem dX8_houseItem_17 : decode cX8_houseItem 17 = .ok (.aload_n 0, 1) := by decide +kernel
theorem dX8_houseItem_18 : decode cX8_houseItem 18 = .ok (.invokevirtual 69, 3) := by decide +kernel
theorem dX8_houseItem_21 : decode cX8_houseItem 21 = .ok (.ifCond .ne 5, 3) := by decide +kernel
theorem dX8_houseItem_24 : decode cX8_houseItem 24 = .ok (.iconst 0, 1) := by decide +kernel
theorem dX8_houseItem_25 : decode cX8_houseItem 25 = .ok (.ireturn, 1) := by decide +kernel
theorem dX8_houseItem_26 : decode cX8_houseItem 26 = .ok (.aload_n 1, 1) := by decide +kernel
theorem dX8_houseItem_27 : decode cX8_houseItem 27 = .ok (.getfield 73, 3) := by decide +kernel
theorem dX8_houseItem_30 : decode cX8_houseItem 30 = .ok (.iload_n 2, 1) := by decide +kernel
theorem dX8_houseItem_31 : decode cX8_houseItem 31 = .ok (.putfield 77, 3) := by decide +kernel
theorem dX8_houseItem_34 : decode cX8_houseItem 34 = .ok (.iconst 1, 1) := by decide +kernel
theorem dX8_houseItem_35 : decode cX8_houseItem 35 = .ok (.ireturn, 1) := by decide +kernel
theorem dX8_doorItem_0 : decode cX8_doorItem 0 = .ok (.aload_n 0, 1) := by decide +kernel
theorem dX8_doorItem_1 : decode cX8_doorItem 1 = .ok (.invokevirtual 22, 3) := by decide +kernel
theorem dX8_doorItem_4 : decode cX8_doorItem 4 = .ok (.aload_n 0, 1) := by decide +kernel
theorem dX8_doorItem_5 : decode cX8_doorItem 5 = .ok (.iconst 0, 1) := by decide +kernel
theorem dX8_doorItem_6 : decode cX8_doorItem 6 = .ok (.bipush 7, 2) := by decide +kernel
theorem dX8_doorItem_8 : decode cX8_doorItem 8 = .ok (.invokevirtual 65, 3) := by decide +kernel
theorem dX8_doorItem_11 : decode cX8_doorItem 11 = .ok (.istore_n 2, 1) := by decide +kernel
theorem dX8_doorItem_12 : decode cX8_doorItem 12 = .ok (.iload_n 2, 1) := by decide +kernel
theorem dX8_doorItem_13 : decode cX8_doorItem 13 = .ok (.iconst (-1), 1) := by decide +kernel
theorem dX8_doorItem_14 : decode cX8_doorItem 14 = .ok (.if_icmp .eq 11, 3) := by decide +kernel
theorem dX8_doorItem_17 : decode cX8_doorItem 17 = .ok (.aload_n 0, 1) := by decide +kernel
theorem dX8_doorItem_18 : decode cX8_doorItem 18 = .ok (.getfield 82, 3) := by decide +kernel
theorem dX8_doorItem_21 : decode cX8_doorItem 21 = .ok (.iload_n 2, 1) := by decide +kernel
theorem dX8_doorItem_22 : decode cX8_doorItem 22 = .ok (.if_icmp .ne 5, 3) := by decide +kernel
theorem dX8_doorItem_25 : decode cX8_doorItem 25 = .ok (.iconst 0, 1) := by decide +kernel
theorem dX8_doorItem_26 : decode cX8_doorItem 26 = .ok (.ireturn, 1) := by decide +kernel
theorem dX8_doorItem_27 : decode cX8_doorItem 27 = .ok (.aload_n 0, 1) := by decide +kernel
theorem dX8_doorItem_28 : decode cX8_doorItem 28 = .ok (.iconst 0, 1) := by decide +kernel
theorem dX8_doorItem_29 : decode cX8_doorItem 29 = .ok (.bipush 7, 2) := by decide +kernel
theorem dX8_doorItem_31 : decode cX8_doorItem 31 = .ok (.invokevirtual 65, 3) := by decide +kernel
theorem dX8_doorItem_34 : decode cX8_doorItem 34 = .ok (.istore_n 3, 1) := by decide +kernel
theorem dX8_doorItem_35 : decode cX8_doorItem 35 = .ok (.iload_n 3, 1) := by decide +kernel
theorem dX8_doorItem_36 : decode cX8_doorItem 36 = .ok (.iconst (-1), 1) := by decide +kernel
theorem dX8_doorItem_37 : decode cX8_doorItem 37 = .ok (.if_icmp .ne 5, 3) := by decide +kernel
theorem dX8_doorItem_40 : decode cX8_doorItem 40 = .ok (.iconst 0, 1) := by decide +kernel
theorem dX8_doorItem_41 : decode cX8_doorItem 41 = .ok (.ireturn, 1) := by decide +kernel
theorem dX8_doorItem_42 : decode cX8_doorItem 42 = .ok (.aload_n 0, 1) := by decide +kernel
theorem dX8_doorItem_43 : decode cX8_doorItem 43 = .ok (.iconst 1, 1) := by decide +kernel
theorem dX8_doorItem_44 : decode cX8_doorItem 44 = .ok (.bipush 9, 2) := by decide +kernel
theorem dX8_doorItem_46 : decode cX8_doorItem 46 = .ok (.invokevirtual 65, 3) := by decide +kernel
theorem dX8_doorItem_49 : decode cX8_doorItem 49 = .ok (.istore 4, 2) := by decide +kernel
theorem dX8_doorItem_51 : decode cX8_doorItem 51 = .ok (.iload 4, 2) := by decide +kernel
theorem dX8_doorItem_53 : decode cX8_doorItem 53 = .ok (.iconst (-1), 1) := by decide +kernel
theorem dX8_doorItem_54 : decode cX8_doorItem 54 = .ok (.if_icmp .eq 10, 3) := by decide +kernel
theorem dX8_doorItem_57 : decode cX8_doorItem 57 = .ok (.aload_n 0, 1) := by decide +kernel
theorem dX8_doorItem_58 : decode cX8_doorItem 58 = .ok (.invokevirtual 69, 3) := by decide +kernel
theorem dX8_doorItem_61 : decode cX8_doorItem 61 = .ok (.ifCond .ne 5, 3) := by decide +kernel
theorem dX8_doorItem_64 : decode cX8_doorItem 64 = .ok (.iconst 0, 1) := by decide +kernel
theorem dX8_doorItem_65 : decode cX8_doorItem 65 = .ok (.ireturn, 1) := by decide +kernel
theorem dX8_doorItem_66 : decode cX8_doorItem 66 = .ok (.aload_n 1, 1) := by decide +kernel
theorem dX8_doorItem_67 : decode cX8_doorItem 67 = .ok (.iload_n 2, 1) := by decide +kernel
theorem dX8_doorItem_68 : decode cX8_doorItem 68 = .ok (.iload_n 3, 1) := by decide +kernel
theorem dX8_doorItem_69 : decode cX8_doorItem 69 = .ok (.iload 4, 2) := by decide +kernel
theorem dX8_doorItem_71 : decode cX8_doorItem 71 = .ok (.invokevirtual 85, 3) := by decide +kernel
theorem dX8_doorItem_74 : decode cX8_doorItem 74 = .ok (.iconst 1, 1) := by decide +kernel
theorem dX8_doorItem_75 : decode cX8_doorItem 75 = .ok (.ireturn, 1) := by decide +kernel
theorem dX8_alarmItem_0 : decode cX8_alarmItem 0 = .ok (.aload_n 0, 1) := by decide +kernel
theorem dX8_alarmItem_1 : decode cX8_alarmItem 1 = .ok (.invokevirtual 22, 3) := by decide +kernel
theorem dX8_alarmItem_4 : decode cX8_alarmItem 4 = .ok (.aload_n 0, 1) := by decide +kernel
theorem dX8_alarmItem_5 : decode cX8_alarmItem 5 = .ok (.iconst 0, 1) := by decide +kernel
theorem dX8_alarmItem_6 : decode cX8_alarmItem 6 = .ok (.iconst 5, 1) := by decide +kernel
theorem dX8_alarmItem_7 : decode cX8_alarmItem 7 = .ok (.invokevirtual 65, 3) := by decide +kernel
theorem dX8_alarmItem_10 : decode cX8_alarmItem 10 = .ok (.istore_n 2, 1) := by decide +kernel
theorem dX8_alarmItem_11 : decode cX8_alarmItem 11 = .ok (.iload_n 2, 1) := by decide +kernel
theorem dX8_alarmItem_12 : decode cX8_alarmItem 12 = .ok (.iconst (-1), 1) := by decide +kernel
theorem dX8_alarmItem_13 : decode cX8_alarmItem 13 = .ok (.if_icmp .ne 5, 3) := by decide +kernel
theorem dX8_alarmItem_16 : decode cX8_alarmItem 16 = .ok (.iconst 0, 1) := by decide +kernel
theorem dX8_alarmItem_17 : decode cX8_alarmItem 17 = .ok (.ireturn, 1) := by decide +kernel
theorem dX8_alarmItem_18 : decode cX8_alarmItem 18 = .ok (.aload_n 0, 1) := by decide +kernel
theorem dX8_alarmItem_19 : decode cX8_alarmItem 19 = .ok (.iconst 0, 1) := by decide +kernel
theorem dX8_alarmItem_20 : decode cX8_alarmItem 20 = .ok (.bipush 7, 2) := by decide +kernel
theorem dX8_alarmItem_22 : decode cX8_alarmItem 22 = .ok (.invokevirtual 65, 3) := by decide +kernel
theorem dX8_alarmItem_25 : decode cX8_alarmItem 25 = .ok (.istore_n 3, 1) := by decide +kernel
theorem dX8_alarmItem_26 : decode cX8_alarmItem 26 = .ok (.iload_n 3, 1) := by decide +kernel
theorem dX8_alarmItem_27 : decode cX8_alarmItem 27 = .ok (.iconst (-1), 1) := by decide +kernel
theorem dX8_alarmItem_28 : decode cX8_alarmItem 28 = .ok (.if_icmp .ne 5, 3) := by decide +kernel
theorem dX8_alarmItem_31 : decode cX8_alarmItem 31 = .ok (.iconst 0, 1) := by decide +kernel
theorem dX8_alarmItem_32 : decode cX8_alarmItem 32 = .ok (.ireturn, 1) := by decide +kernel
theorem dX8_alarmItem_33 : decode cX8_alarmItem 33 = .ok (.aload_n 0, 1) := by decide +kernel
theorem dX8_alarmItem_34 : decode cX8_alarmItem 34 = .ok (.iconst 0, 1) := by decide +kernel
theorem dX8_alarmItem_35 : decode cX8_alarmItem 35 = .ok (.bipush 99, 2) := by decide +kernel
theorem dX8_alarmItem_37 : decode cX8_alarmItem 37 = .ok (.invokevirtual 65, 3) := by decide +kernel
theorem dX8_alarmItem_40 : decode cX8_alarmItem 40 = .ok (.istore 4, 2) := by decide +kernel
theorem dX8_alarmItem_42 : decode cX8_alarmItem 42 = .ok (.iload 4, 2) := by decide +kernel
theorem dX8_alarmItem_44 : decode cX8_alarmItem 44 = .ok (.iconst (-1), 1) := by decide +kernel
theorem dX8_alarmItem_45 : decode cX8_alarmItem 45 = .ok (.if_icmp .eq 10, 3) := by decide +kernel
theorem dX8_alarmItem_48 : decode cX8_alarmItem 48 = .ok (.aload_n 0, 1) := by decide +kernel
theorem dX8_alarmItem_49 : decode cX8_alarmItem 49 = .ok (.invokevirtual 69, 3) := by decide +kernel
theorem dX8_alarmItem_52 : decode cX8_alarmItem 52 = .ok (.ifCond .ne 5, 3) := by decide +kernel
theorem dX8_alarmItem_55 : decode cX8_alarmItem 55 = .ok (.iconst 0, 1) := by decide +kernel
theorem dX8_alarmItem_56 : decode cX8_alarmItem 56 = .ok (.ireturn, 1) := by decide +kernel
theorem dX8_alarmItem_57 : decode cX8_alarmItem 57 = .ok (.aload_n 1, 1) := by decide +kernel
theorem dX8_alarmItem_58 : decode cX8_alarmItem 58 = .ok (.iload_n 2, 1) := by decide +kernel
theorem dX8_alarmItem_59 : decode cX8_alarmItem 59 = .ok (.iload_n 3, 1) := by decide +kernel
theorem dX8_alarmItem_60 : decode cX8_alarmItem 60 = .ok (.iload 4, 2) := by decide +kernel
theorem dX8_alarmItem_62 : decode cX8_alarmItem 62 = .ok (.invokevirtual 89, 3) := by decide +kernel
theorem dX8_alarmItem_65 : decode cX8_alarmItem 65 = .ok (.iconst 1, 1) := by decide +kernel
theorem dX8_alarmItem_66 : decode cX8_alarmItem 66 = .ok (.ireturn, 1) := by decide +kernel
theorem dX8_downItem_0 : decode cX8_downItem 0 = .ok (.aload_n 0, 1) := by decide +kernel
theorem dX8_downItem_1 : decode cX8_downItem 1 = .ok (.invokevirtual 22, 3) := by decide +kernel
theorem dX8_downItem_4 : decode cX8_downItem 4 = .ok (.aload_n 0, 1) := by decide +kernel
theorem dX8_downItem_5 : decode cX8_downItem 5 = .ok (.iconst 0, 1) := by decide +kernel
theorem dX8_downItem_6 : decode cX8_downItem 6 = .ok (.aload_n 1, 1) := by decide +kernel
theorem dX8_downItem_7 : decode cX8_downItem 7 = .ok (.getfield 52, 3) := by decide +kernel
theorem dX8_downItem_10 : decode cX8_downItem 10 = .ok (.iconst 1, 1) := by decide +kernel
theorem dX8_downItem_11 : decode cX8_downItem 11 = .ok (.isub, 1) := by decide +kernel
theorem dX8_downItem_12 : decode cX8_downItem 12 = .ok (.invokevirtual 65, 3) := by decide +kernel
theorem dX8_downItem_15 : decode cX8_downItem 15 = .ok (.istore_n 2, 1) := by decide +kernel
theorem dX8_downItem_16 : decode cX8_downItem 16 = .ok (.iload_n 2, 1) := by decide +kernel
theorem dX8_downItem_17 : decode cX8_downItem 17 = .ok (.iconst (-1), 1) := by decide +kernel
theorem dX8_downItem_18 : decode cX8_downItem 18 = .ok (.if_icmp .eq 10, 3) := by decide +kernel
theorem dX8_downItem_21 : decode cX8_downItem 21 = .ok (.aload_n 0, 1) := by decide +kernel
theorem dX8_downItem_22 : decode cX8_downItem 22 = .ok (.invokevirtual 69, 3) := by decide +kernel
theorem dX8_downItem_25 : decode cX8_downItem 25 = .ok (.ifCond .ne 5, 3) := by decide +kernel
theorem dX8_downItem_28 : decode cX8_downItem 28 = .ok (.iconst 0, 1) := by decide +kernel
theorem dX8_downItem_29 : decode cX8_downItem 29 = .ok (.ireturn, 1) := by decide +kernel
theorem dX8_downItem_30 : decode cX8_downItem 30 = .ok (.aload_n 1, 1) := by decide +kernel
theorem dX8_downItem_31 : decode cX8_downItem 31 = .ok (.getfield 73, 3) := by decide +kernel
theorem dX8_downItem_34 : decode cX8_downItem 34 = .ok (.iload_n 2, 1) := by decide +kernel
theorem dX8_downItem_35 : decode cX8_downItem 35 = .ok (.iconst 1, 1) := by decide +kernel
theorem dX8_downItem_36 : decode cX8_downItem 36 = .ok (.invokevirtual 92, 3) := by decide +kernel
theorem dX8_downItem_39 : decode cX8_downItem 39 = .ok (.iconst 1, 1) := by decide +kernel
theorem dX8_downItem_40 : decode cX8_downItem 40 = .ok (.ireturn, 1) := by decide +kernel
theorem dX8_number_0 : decode cX8_number 0 = .ok (.aload_n 0, 1) := by decide +kernel
theorem dX8_number_1 : decode cX8_number 1 = .ok (.getfield 25, 3) := by decide +kernel
theorem dX8_number_4 : decode cX8_number 4 = .ok (.iconst 2, 1) := by decide +kernel
theorem dX8_number_5 : decode cX8_number 5 = .ok (.if_icmp .ne 15, 3) := by decide +kernel
theorem dX8_number_8 : decode cX8_number 8 = .ok (.aload_n 0, 1) := by decide +kernel
theorem dX8_number_9 : decode cX8_number 9 = .ok (.getfield 82, 3) := by decide +kernel
theorem dX8_number_12 : decode cX8_number 12 = .ok (.iload_n 1, 1) := by decide +kernel
theorem dX8_number_13 : decode cX8_number 13 = .ok (.iload_n 2, 1) := by decide +kernel
theorem dX8_number_14 : decode cX8_number 14 = .ok (.invokestatic 96, 3) := by decide +kernel
theorem dX8_number_17 : decode cX8_number 17 = .ok (.ifCond .ne 5, 3) := by decide +kernel
theorem dX8_number_20 : decode cX8_number 20 = .ok (.iconst (-1), 1) := by decide +kernel
theorem dX8_number_21 : decode cX8_number 21 = .ok (.ireturn, 1) := by decide +kernel
theorem dX8_number_22 : decode cX8_number 22 = .ok (.aload_n 0, 1) := by decide +kernel
theorem dX8_number_23 : decode cX8_number 23 = .ok (.getfield 82, 3) := by decide +kernel
theorem dX8_number_26 : decode cX8_number 26 = .ok (.istore_n 3, 1) := by decide +kernel
theorem dX8_number_27 : decode cX8_number 27 = .ok (.aload_n 0, 1) := by decide +kernel
theorem dX8_number_28 : decode cX8_number 28 = .ok (.invokevirtual 22, 3) := by decide +kernel
theorem dX8_number_31 : decode cX8_number 31 = .ok (.iload_n 3, 1) := by decide +kernel
theorem dX8_number_32 : decode cX8_number 32 = .ok (.ireturn, 1) := by decide +kernel
theorem dX8_stop_0 : decode cX8_stop 0 = .ok (.aload_n 0, 1) := by decide +kernel
theorem dX8_stop_1 : decode cX8_stop 1 = .ok (.getfield 25, 3) := by decide +kernel
theorem dX8_stop_4 : decode cX8_stop 4 = .ok (.iconst 3, 1) := by decide +kernel
theorem dX8_stop_5 : decode cX8_stop 5 = .ok (.if_icmp .eq 5, 3) := by decide +kernel
theorem dX8_stop_8 : decode cX8_stop 8 = .ok (.iconst 0, 1) := by decide +kernel
theorem dX8_stop_9 : decode cX8_stop 9 = .ok (.ireturn, 1) := by decide +kernel
theorem dX8_stop_10 : decode cX8_stop 10 = .ok (.aload_n 0, 1) := by decide +kernel
theorem dX8_stop_11 : decode cX8_stop 11 = .ok (.invokevirtual 22, 3) := by decide +kernel
theorem dX8_stop_14 : decode cX8_stop 14 = .ok (.iconst 1, 1) := by decide +kernel
theorem dX8_stop_15 : decode cX8_stop 15 = .ok (.ireturn, 1) := by decide +kernel
theorem dX8_says_0 : decode cX8_says 0 = .ok (.aload_n 0, 1) := by decide +kernel
theorem dX8_says_1 : decode cX8_says 1 = .ok (.getfield 25, 3) := by decide +kernel
theorem dX8_says_4 : decode cX8_says 4 = .ok (.iconst 1, 1) := by decide +kernel
theorem dX8_says_5 : decode cX8_says 5 = .ok (.if_icmp .ne 19, 3) := by decide +kernel
theorem dX8_says_8 : decode cX8_says 8 = .ok (.aload_n 0, 1) := by decide +kernel
theorem dX8_says_9 : decode cX8_says 9 = .ok (.getfield 19, 3) := by decide +kernel
theorem dX8_says_12 : decode cX8_says 12 = .ok (.aload_n 0, 1) := by decide +kernel
theorem dX8_says_13 : decode cX8_says 13 = .ok (.getfield 32, 3) := by decide +kernel
theorem dX8_says_16 : decode cX8_says 16 = .ok (.isub, 1) := by decide +kernel
theorem dX8_says_17 : decode cX8_says 17 = .ok (.aload_n 1, 1) := by decide +kernel
theorem dX8_says_18 : decode cX8_says 18 = .ok (.invokevirtual 100, 3) := by decide +kernel
theorem dX8_says_21 : decode cX8_says 21 = .ok (.if_icmp .eq 5, 3) := by decide +kernel
theorem dX8_says_24 : decode cX8_says 24 = .ok (.iconst 0, 1) := by decide +kernel
theorem dX8_says_25 : decode cX8_says 25 = .ok (.ireturn, 1) := by decide +kernel
theorem dX8_says_26 : decode cX8_says 26 = .ok (.iconst 0, 1) := by decide +kernel
theorem dX8_says_27 : decode cX8_says 27 = .ok (.istore_n 2, 1) := by decide +kernel
theorem dX8_says_28 : decode cX8_says 28 = .ok (.iload_n 2, 1) := by decide +kernel
theorem dX8_says_29 : decode cX8_says 29 = .ok (.aload_n 1, 1) := by decide +kernel
theorem dX8_says_30 : decode cX8_says 30 = .ok (.invokevirtual 100, 3) := by decide +kernel
theorem dX8_says_33 : decode cX8_says 33 = .ok (.if_icmp .ge 30, 3) := by decide +kernel
theorem dX8_says_36 : decode cX8_says 36 = .ok (.aload_n 0, 1) := by decide +kernel
theorem dX8_says_37 : decode cX8_says 37 = .ok (.getfield 9, 3) := by decide +kernel
theorem dX8_says_40 : decode cX8_says 40 = .ok (.aload_n 0, 1) := by decide +kernel
theorem dX8_says_41 : decode cX8_says 41 = .ok (.getfield 32, 3) := by decide +kernel
theorem dX8_says_44 : decode cX8_says 44 = .ok (.iload_n 2, 1) := by decide +kernel
theorem dX8_says_45 : decode cX8_says 45 = .ok (.iadd, 1) := by decide +kernel
theorem dX8_says_46 : decode cX8_says 46 = .ok (.caload, 1) := by decide +kernel
theorem dX8_says_47 : decode cX8_says 47 = .ok (.aload_n 1, 1) := by decide +kernel
theorem dX8_says_48 : decode cX8_says 48 = .ok (.iload_n 2, 1) := by decide +kernel
theorem dX8_says_49 : decode cX8_says 49 = .ok (.invokevirtual 105, 3) := by decide +kernel
theorem dX8_says_52 : decode cX8_says 52 = .ok (.if_icmp .eq 5, 3) := by decide +kernel
theorem dX8_says_55 : decode cX8_says 55 = .ok (.iconst 0, 1) := by decide +kernel
theorem dX8_says_56 : decode cX8_says 56 = .ok (.ireturn, 1) := by decide +kernel
theorem dX8_says_57 : decode cX8_says 57 = .ok (.iinc 2 1, 3) := by decide +kernel
theorem dX8_says_60 : decode cX8_says 60 = .ok (.goto (-32), 3) := by decide +kernel
theorem dX8_says_63 : decode cX8_says 63 = .ok (.iconst 1, 1) := by decide +kernel
theorem dX8_says_64 : decode cX8_says 64 = .ok (.ireturn, 1) := by decide +kernel
theorem dX8_step_0 : decode cX8_step 0 = .ok (.aload_n 0, 1) := by decide +kernel
theorem dX8_step_1 : decode cX8_step 1 = .ok (.aload_n 0, 1) := by decide +kernel
theorem dX8_step_2 : decode cX8_step 2 = .ok (.aload_n 0, 1) := by decide +kernel
theorem dX8_step_3 : decode cX8_step 3 = .ok (.getfield 19, 3) := by decide +kernel
theorem dX8_step_6 : decode cX8_step 6 = .ok (.bipush 32, 2) := by decide +kernel
theorem dX8_step_8 : decode cX8_step 8 = .ok (.bipush 32, 2) := by decide +kernel
theorem dX8_step_10 : decode cX8_step 10 = .ok (.invokevirtual 109, 3) := by decide +kernel
theorem dX8_step_13 : decode cX8_step 13 = .ok (.putfield 32, 3) := by decide +kernel
theorem dX8_step_16 : decode cX8_step 16 = .ok (.aload_n 0, 1) := by decide +kernel
theorem dX8_step_17 : decode cX8_step 17 = .ok (.iconst (-1), 1) := by decide +kernel
theorem dX8_step_18 : decode cX8_step 18 = .ok (.putfield 82, 3) := by decide +kernel
theorem dX8_step_21 : decode cX8_step 21 = .ok (.aload_n 0, 1) := by decide +kernel
theorem dX8_step_22 : decode cX8_step 22 = .ok (.getfield 32, 3) := by decide +kernel
theorem dX8_step_25 : decode cX8_step 25 = .ok (.aload_n 0, 1) := by decide +kernel
theorem dX8_step_26 : decode cX8_step 26 = .ok (.getfield 15, 3) := by decide +kernel
theorem dX8_step_29 : decode cX8_step 29 = .ok (.if_icmp .lt 19, 3) := by decide +kernel
theorem dX8_step_32 : decode cX8_step 32 = .ok (.aload_n 0, 1) := by decide +kernel
theorem dX8_step_33 : decode cX8_step 33 = .ok (.iconst 0, 1) := by decide +kernel
theorem dX8_step_34 : decode cX8_step 34 = .ok (.putfield 25, 3) := by decide +kernel
theorem dX8_step_37 : decode cX8_step 37 = .ok (.aload_n 0, 1) := by decide +kernel
theorem dX8_step_38 : decode cX8_step 38 = .ok (.aload_n 0, 1) := by decide +kernel
theorem dX8_step_39 : decode cX8_step 39 = .ok (.getfield 32, 3) := by decide +kernel
theorem dX8_step_42 : decode cX8_step 42 = .ok (.putfield 19, 3) := by decide +kernel
theorem dX8_step_45 : decode cX8_step 45 = .ok (.goto 130, 3) := by decide +kernel
theorem dX8_step_48 : decode cX8_step 48 = .ok (.aload_n 0, 1) := by decide +kernel
theorem dX8_step_49 : decode cX8_step 49 = .ok (.getfield 9, 3) := by decide +kernel
theorem dX8_step_52 : decode cX8_step 52 = .ok (.aload_n 0, 1) := by decide +kernel
theorem dX8_step_53 : decode cX8_step 53 = .ok (.getfield 32, 3) := by decide +kernel
theorem dX8_step_56 : decode cX8_step 56 = .ok (.caload, 1) := by decide +kernel
theorem dX8_step_57 : decode cX8_step 57 = .ok (.bipush 97, 2) := by decide +kernel
theorem dX8_step_59 : decode cX8_step 59 = .ok (.bipush 122, 2) := by decide +kernel
theorem dX8_step_61 : decode cX8_step 61 = .ok (.invokestatic 96, 3) := by decide +kernel
theorem dX8_step_64 : decode cX8_step 64 = .ok (.ifCond .eq 27, 3) := by decide +kernel
theorem dX8_step_67 : decode cX8_step 67 = .ok (.aload_n 0, 1) := by decide +kernel
theorem dX8_step_68 : decode cX8_step 68 = .ok (.iconst 1, 1) := by decide +kernel
theorem dX8_step_69 : decode cX8_step 69 = .ok (.putfield 25, 3) := by decide +kernel
theorem dX8_step_72 : decode cX8_step 72 = .ok (.aload_n 0, 1) := by decide +kernel
theorem dX8_step_73 : decode cX8_step 73 = .ok (.aload_n 0, 1) := by decide +kernel
theorem dX8_step_74 : decode cX8_step 74 = .ok (.aload_n 0, 1) := by decide +kernel
theorem dX8_step_75 : decode cX8_step 75 = .ok (.getfield 32, 3) := by decide +kernel
theorem dX8_step_78 : decode cX8_step 78 = .ok (.bipush 97, 2) := by decide +kernel
theorem dX8_step_80 : decode cX8_step 80 = .ok (.bipush 122, 2) := by decide +kernel
theorem dX8_step_82 : decode cX8_step 82 = .ok (.invokevirtual 109, 3) := by decide +kernel
theorem dX8_step_85 : decode cX8_step 85 = .ok (.putfield 19, 3) := by decide +kernel
theorem dX8_step_88 : decode cX8_step 88 = .ok (.goto 87, 3) := by decide +kernel
theorem dX8_step_91 : decode cX8_step 91 = .ok (.aload_n 0, 1) := by decide +kernel
theorem dX8_step_92 : decode cX8_step 92 = .ok (.getfield 9, 3) := by decide +kernel
theorem dX8_step_95 : decode cX8_step 95 = .ok (.aload_n 0, 1) := by decide +kernel
theorem dX8_step_96 : decode cX8_step 96 = .ok (.getfield 32, 3) := by decide +kernel
theorem dX8_step_99 : decode cX8_step 99 = .ok (.caload, 1) := by decide +kernel
theorem dX8_step_100 : decode cX8_step 100 = .ok (.bipush 48, 2) := by decide +kernel
theorem dX8_step_102 : decode cX8_step 102 = .ok (.bipush 57, 2) := by decide +kernel
theorem dX8_step_104 : decode cX8_step 104 = .ok (.invokestatic 96, 3) := by decide +kernel
theorem dX8_step_107 : decode cX8_step 107 = .ok (.ifCond .eq 35, 3) := by decide +kernel
theorem dX8_step_110 : decode cX8_step 110 = .ok (.aload_n 0, 1) := by decide +kernel
theorem dX8_step_111 : decode cX8_step 111 = .ok (.iconst 2, 1) := by decide +kernel
theorem dX8_step_112 : decode cX8_step 112 = .ok (.putfield 25, 3) := by decide +kernel
theorem dX8_step_115 : decode cX8_step 115 = .ok (.aload_n 0, 1) := by decide +kernel
theorem dX8_step_116 : decode cX8_step 116 = .ok (.aload_n 0, 1) := by decide +kernel
theorem dX8_step_117 : decode cX8_step 117 = .ok (.aload_n 0, 1) := by decide +kernel
theorem dX8_step_118 : decode cX8_step 118 = .ok (.getfield 32, 3) := by decide +kernel
theorem dX8_step_121 : decode cX8_step 121 = .ok (.bipush 48, 2) := by decide +kernel
theorem dX8_step_123 : decode cX8_step 123 = .ok (.bipush 57, 2) := by decide +kernel
theorem dX8_step_125 : decode cX8_step 125 = .ok (.invokevirtual 109, 3) := by decide +kernel
theorem dX8_step_128 : decode cX8_step 128 = .ok (.putfield 19, 3) := by decide +kernel
theorem dX8_step_131 : decode cX8_step 131 = .ok (.aload_n 0, 1) := by decide +kernel
theorem dX8_step_132 : decode cX8_step 132 = .ok (.aload_n 0, 1) := by decide +kernel
theorem dX8_step_133 : decode cX8_step 133 = .ok (.invokevirtual 113, 3) := by decide +kernel
theorem dX8_step_136 : decode cX8_step 136 = .ok (.putfield 82, 3) := by decide +kernel
theorem dX8_step_139 : decode cX8_step 139 = .ok (.goto 36, 3) := by decide +kernel
theorem dX8_step_142 : decode cX8_step 142 = .ok (.aload_n 0, 1) := by decide +kernel
theorem dX8_step_143 : decode cX8_step 143 = .ok (.aload_n 0, 1) := by decide +kernel
theorem dX8_step_144 : decode cX8_step 144 = .ok (.getfield 9, 3) := by decide +kernel
theorem dX8_step_147 : decode cX8_step 147 = .ok (.aload_n 0, 1) := by decide +kernel
theorem dX8_step_148 : decode cX8_step 148 = .ok (.getfield 32, 3) := by decide +kernel
theorem dX8_step_151 : decode cX8_step 151 = .ok (.caload, 1) := by decide +kernel
theorem dX8_step_152 : decode cX8_step 152 = .ok (.bipush 59, 2) := by decide +kernel
theorem dX8_step_154 : decode cX8_step 154 = .ok (.if_icmp .ne 7, 3) := by decide +kernel
theorem dX8_step_157 : decode cX8_step 157 = .ok (.iconst 3, 1) := by decide +kernel
theorem dX8_step_158 : decode cX8_step 158 = .ok (.goto 4, 3) := by decide +kernel
theorem dX8_step_161 : decode cX8_step 161 = .ok (.iconst 4, 1) := by decide +kernel
theorem dX8_step_162 : decode cX8_step 162 = .ok (.putfield 25, 3) := by decide +kernel
theorem dX8_step_165 : decode cX8_step 165 = .ok (.aload_n 0, 1) := by decide +kernel
theorem dX8_step_166 : decode cX8_step 166 = .ok (.aload_n 0, 1) := by decide +kernel
theorem dX8_step_167 : decode cX8_step 167 = .ok (.getfield 32, 3) := by decide +kernel
theorem dX8_step_170 : decode cX8_step 170 = .ok (.iconst 1, 1) := by decide +kernel
theorem dX8_step_171 : decode cX8_step 171 = .ok (.iadd, 1) := by decide +kernel
theorem dX8_step_172 : decode cX8_step 172 = .ok (.putfield 19, 3) := by decide +kernel
theorem dX8_step_175 : decode cX8_step 175 = .ok (.return_, 1) := by decide +kernel
theorem dX8_behindRun_0 : decode cX8_behindRun 0 = .ok (.iload_n 1, 1) := by decide +kernel
theorem dX8_behindRun_1 : decode cX8_behindRun 1 = .ok (.istore 4, 2) := by decide +kernel
theorem dX8_behindRun_3 : decode cX8_behindRun 3 = .ok (.iload 4, 2) := by decide +kernel
theorem dX8_behindRun_5 : decode cX8_behindRun 5 = .ok (.aload_n 0, 1) := by decide +kernel
theorem dX8_behindRun_6 : decode cX8_behindRun 6 = .ok (.getfield 15, 3) := by decide +kernel
theorem dX8_behindRun_9 : decode cX8_behindRun 9 = .ok (.if_icmp .ge 31, 3) := by decide +kernel
theorem dX8_behindRun_12 : decode cX8_behindRun 12 = .ok (.aload_n 0, 1) := by decide +kernel
theorem dX8_behindRun_13 : decode cX8_behindRun 13 = .ok (.getfield 9, 3) := by decide +kernel
theorem dX8_behindRun_16 : decode cX8_behindRun 16 = .ok (.iload 4, 2) := by decide +kernel
theorem dX8_behindRun_18 : decode cX8_behindRun 18 = .ok (.caload, 1) := by decide +kernel
theorem dX8_behindRun_19 : decode cX8_behindRun 19 = .ok (.iload_n 2, 1) := by decide +kernel
theorem dX8_behindRun_20 : decode cX8_behindRun 20 = .ok (.if_icmp .lt 20, 3) := by decide +kernel
theorem dX8_behindRun_23 : decode cX8_behindRun 23 = .ok (.aload_n 0, 1) := by decide +kernel
theorem dX8_behindRun_24 : decode cX8_behindRun 24 = .ok (.getfield 9, 3) := by decide +kernel
theorem dX8_behindRun_27 : decode cX8_behindRun 27 = .ok (.iload 4, 2) := by decide +kernel
theorem dX8_behindRun_29 : decode cX8_behindRun 29 = .ok (.caload, 1) := by decide +kernel
theorem dX8_behindRun_30 : decode cX8_behindRun 30 = .ok (.iload_n 3, 1) := by decide +kernel
theorem dX8_behindRun_31 : decode cX8_behindRun 31 = .ok (.if_icmp .gt 9, 3) := by decide +kernel
theorem dX8_behindRun_34 : decode cX8_behindRun 34 = .ok (.iinc 4 1, 3) := by decide +kernel
theorem dX8_behindRun_37 : decode cX8_behindRun 37 = .ok (.goto (-34), 3) := by decide +kernel
theorem dX8_behindRun_40 : decode cX8_behindRun 40 = .ok (.iload 4, 2) := by decide +kernel
theorem dX8_behindRun_42 : decode cX8_behindRun 42 = .ok (.ireturn, 1) := by decide +kernel
theorem dX8_valueOfFigures_0 : decode cX8_valueOfFigures 0 = .ok (.aload_n 0, 1) := by decide +kernel
theorem dX8_valueOfFigures_1 : decode cX8_valueOfFigures 1 = .ok (.getfield 19, 3) := by decide +kernel
theorem dX8_valueOfFigures_4 : decode cX8_valueOfFigures 4 = .ok (.aload_n 0, 1) := by decide +kernel
theorem dX8_valueOfFigures_5 : decode cX8_valueOfFigures 5 = .ok (.getfield 32, 3) := by decide +kernel
theorem dX8_valueOfFigures_8 : decode cX8_valueOfFigures 8 = .ok (.isub, 1) := by decide +kernel
theorem dX8_valueOfFigures_9 : decode cX8_valueOfFigures 9 = .ok (.iconst 2, 1) := by decide +kernel
theorem dX8_valueOfFigures_10 : decode cX8_valueOfFigures 10 = .ok (.if_icmp .le 5, 3) := by decide +kernel
theorem dX8_valueOfFigures_13 : decode cX8_valueOfFigures 13 = .ok (.iconst (-1), 1) := by decide +kernel
theorem dX8_valueOfFigures_14 : decode cX8_valueOfFigures 14 = .ok (.ireturn, 1) := by decide +kernel
theorem dX8_valueOfFigures_15 : decode cX8_valueOfFigures 15 = .ok (.iconst 0, 1) := by decide +kernel
theorem dX8_valueOfFigures_16 : decode cX8_valueOfFigures 16 = .ok (.istore_n 1, 1) := by decide +kernel
theorem dX8_valueOfFigures_17 : decode cX8_valueOfFigures 17 = .ok (.aload_n 0, 1) := by decide +kernel
theorem dX8_valueOfFigures_18 : decode cX8_valueOfFigures 18 = .ok (.getfield 32, 3) := by decide +kernel
theorem dX8_valueOfFigures_21 : decode cX8_valueOfFigures 21 = .ok (.istore_n 2, 1) := by decide +kernel
theorem dX8_valueOfFigures_22 : decode cX8_valueOfFigures 22 = .ok (.iload_n 2, 1) := by decide +kernel
theorem dX8_valueOfFigures_23 : decode cX8_valueOfFigures 23 = .ok (.aload_n 0, 1) := by decide +kernel
theorem dX8_valueOfFigures_24 : decode cX8_valueOfFigures 24 = .ok (.getfield 19, 3) := by decide +kernel
theorem dX8_valueOfFigures_27 : decode cX8_valueOfFigures 27 = .ok (.if_icmp .ge 24, 3) := by decide +kernel
theorem dX8_valueOfFigures_30 : decode cX8_valueOfFigures 30 = .ok (.bipush 10, 2) := by decide +kernel
theorem dX8_valueOfFigures_32 : decode cX8_valueOfFigures 32 = .ok (.iload_n 1, 1) := by decide +kernel
theorem dX8_valueOfFigures_33 : decode cX8_valueOfFigures 33 = .ok (.imul, 1) := by decide +kernel
theorem dX8_valueOfFigures_34 : decode cX8_valueOfFigures 34 = .ok (.aload_n 0, 1) := by decide +kernel
theorem dX8_valueOfFigures_35 : decode cX8_valueOfFigures 35 = .ok (.getfield 9, 3) := by decide +kernel
theorem dX8_valueOfFigures_38 : decode cX8_valueOfFigures 38 = .ok (.iload_n 2, 1) := by decide +kernel
theorem dX8_valueOfFigures_39 : decode cX8_valueOfFigures 39 = .ok (.caload, 1) := by decide +kernel
theorem dX8_valueOfFigures_40 : decode cX8_valueOfFigures 40 = .ok (.bipush 48, 2) := by decide +kernel
theorem dX8_valueOfFigures_42 : decode cX8_valueOfFigures 42 = .ok (.isub, 1) := by decide +kernel
theorem dX8_valueOfFigures_43 : decode cX8_valueOfFigures 43 = .ok (.iadd, 1) := by decide +kernel
theorem dX8_valueOfFigures_44 : decode cX8_valueOfFigures 44 = .ok (.istore_n 1, 1) := by decide +kernel
theorem dX8_valueOfFigures_45 : decode cX8_valueOfFigures 45 = .ok (.iinc 2 1, 3) := by decide +kernel
theorem dX8_valueOfFigures_48 : decode cX8_valueOfFigures 48 = .ok (.goto (-26), 3) := by decide +kernel
theorem dX8_valueOfFigures_51 : decode cX8_valueOfFigures 51 = .ok (.iload_n 1, 1) := by decide +kernel
theorem dX8_valueOfFigures_52 : decode cX8_valueOfFigures 52 = .ok (.ireturn, 1) := by decide +kernel
theorem dX9_init_0 : decode cX9_init 0 = .ok (.aload_n 0, 1) := by decide +kernel
theorem dX9_init_1 : decode cX9_init 1 = .ok (.invokespecial 1, 3) := by decide +kernel
theorem dX9_init_4 : decode cX9_init 4 = .ok (.return_, 1) := by decide +kernel
theorem dX9_sounds_0 : decode cX9_sounds 0 = .ok (.aload_n 0, 1) := by decide +kernel
theorem dX9_sounds_1 : decode cX9_sounds 1 = .ok (.iload_n 1, 1) := by decide +kernel
theorem dX9_sounds_2 : decode cX9_sounds 2 = .ok (.iload_n 2, 1) := by decide +kernel
theorem dX9_sounds_3 : decode cX9_sounds 3 = .ok (.iload_n 3, 1) := by decide +kernel
theorem dX9_sounds_4 : decode cX9_sounds 4 = .ok (.invokespecial 7, 3) := by decide +kernel
theorem dX9_sounds_7 : decode cX9_sounds 7 = .ok (.ifCond .ne 20, 3) := by decide +kernel
theorem dX9_sounds_10 : decode cX9_sounds 10 = .ok (.iload_n 1, 1) := by decide +kernel
theorem dX9_sounds_11 : decode cX9_sounds 11 = .ok (.bipush 41, 2) := by decide +kernel
theorem dX9_sounds_13 : decode cX9_sounds 13 = .ok (.irem, 1) := by decide +kernel
theorem dX9_sounds_14 : decode cX9_sounds 14 = .ok (.bipush 20, 2) := by decide +kernel
theorem dX9_sounds_16 : decode cX9_sounds 16 = .ok (.if_icmp .ne 15, 3) := by decide +kernel
theorem dX9_sounds_19 : decode cX9_sounds 19 = .ok (.iload_n 3, 1) := by decide +kernel
theorem dX9_sounds_20 : decode cX9_sounds 20 = .ok (.iload_n 2, 1) := by decide +kernel
theorem dX9_sounds_21 : decode cX9_sounds 21 = .ok (.isub, 1) := by decide +kernel
theorem dX9_sounds_22 : decode cX9_sounds 22 = .ok (.bipush 10, 2) := by decide +kernel
theorem dX9_sounds_24 : decode cX9_sounds 24 = .ok (.if_icmp .ge 7, 3) := by decide +kernel
theorem dX9_sounds_27 : decode cX9_sounds 27 = .ok (.iconst 1, 1) := by decide +kernel
theorem dX9_sounds_28 : decode cX9_sounds 28 = .ok (.goto 4, 3) := by decide +kernel
theorem dX9_sounds_31 : decode cX9_sounds 31 = .ok (.iconst 0, 1) := by decide +kernel
theorem dX9_sounds_32 : decode cX9_sounds 32 = .ok (.ireturn, 1) := by decide +kernel
theorem dX9_loud_0 : decode cX9_loud 0 = .ok (.iconst 2, 1) := by decide +kernel
theorem dX9_loud_1 : decode cX9_loud 1 = .ok (.aload_n 0, 1) := by decide +kernel
theorem dX9_loud_2 : decode cX9_loud 2 = .ok (.invokespecial 11, 3) := by decide +kernel
theorem dX9_loud_5 : decode cX9_loud 5 = .ok (.imul, 1) := by decide +kernel
theorem dX9_loud_6 : decode cX9_loud 6 = .ok (.ireturn, 1) := by decide +kernel
theorem dX10_init_0 : decode cX10_init 0 = .ok (.aload_n 0, 1) := by decide +kernel
theorem dX10_init_1 : decode cX10_init 1 = .ok (.invokespecial 1, 3) := by decide +kernel
theorem dX10_init_4 : decode cX10_init 4 = .ok (.aload_n 0, 1) := by decide +kernel
theorem dX10_init_5 : decode cX10_init 5 = .ok (.new 7, 3) := by decide +kernel
theorem dX10_init_8 : decode cX10_init 8 = .ok (.dup, 1) := by decide +kernel
theorem dX10_init_9 : decode cX10_init 9 = .ok (.invokespecial 9, 3) := by decide +kernel
theorem dX10_init_12 : decode cX10_init 12 = .ok (.putfield 10, 3) := by decide +kernel
theorem dX10_init_15 : decode cX10_init 15 = .ok (.aload_n 0, 1) := by decide +kernel
theorem dX10_init_16 : decode cX10_init 16 = .ok (.new 16, 3) := by decide +kernel
theorem dX10_init_19 : decode cX10_init 19 = .ok (.dup, 1) := by decide +kernel
theorem dX10_init_20 : decode cX10_init 20 = .ok (.invokespecial 18, 3) := by decide +kernel
theorem dX10_init_23 : decode cX10_init 23 = .ok (.putfield 19, 3) := by decide +kernel
theorem dX10_init_26 : decode cX10_init 26 = .ok (.aload_n 0, 1) := by decide +kernel
theorem dX10_init_27 : decode cX10_init 27 = .ok (.new 23, 3) := by decide +kernel
theorem dX10_init_30 : decode cX10_init 30 = .ok (.dup, 1) := by decide +kernel
theorem dX10_init_31 : decode cX10_init 31 = .ok (.invokespecial 25, 3) := by decide +kernel
theorem dX10_init_34 : decode cX10_init 34 = .ok (.putfield 26, 3) := by decide +kernel
theorem dX10_init_37 : decode cX10_init 37 = .ok (.aload_n 0, 1) := by decide +kernel
theorem dX10_init_38 : decode cX10_init 38 = .ok (.new 23, 3) := by decide +kernel
theorem dX10_init_41 : decode cX10_init 41 = .ok (.dup, 1) := by decide +kernel
theorem dX10_init_42 : decode cX10_init 42 = .ok (.invokespecial 25, 3) := by decide +kernel
theorem dX10_init_45 : decode cX10_init 45 = .ok (.putfield 30, 3) := by decide +kernel
theorem dX10_init_48 : decode cX10_init 48 = .ok (.aload_n 0, 1) := by decide +kernel
theorem dX10_init_49 : decode cX10_init 49 = .ok (.iconst 2, 1) := by decide +kernel
theorem dX10_init_50 : decode cX10_init 50 = .ok (.anewarray 23, 3) := by decide +kernel
theorem dX10_init_53 : decode cX10_init 53 = .ok (.dup, 1) := by decide +kernel
theorem dX10_init_54 : decode cX10_init 54 = .ok (.iconst 0, 1) := by decide +kernel
theorem dX10_init_55 : decode cX10_init 55 = .ok (.new 23, 3) := by decide +kernel
theorem dX10_init_58 : decode cX10_init 58 = .ok (.dup, 1) := by decide +kernel
theorem dX10_init_59 : decode cX10_init 59 = .ok (.invokespecial 25, 3) := by decide +kernel
theorem dX10_init_62 : decode cX10_init 62 = .ok (.aastore, 1) := by decide +kernel
theorem dX10_init_63 : decode cX10_init 63 = .ok (.dup, 1) := by decide +kernel
theorem dX10_init_64 : decode cX10_init 64 = .ok (.iconst 1, 1) := by decide +kernel
theorem dX10_init_65 : decode cX10_init 65 = .ok (.new 23, 3) := by decide +kernel
theorem dX10_init_68 : decode cX10_init 68 = .ok (.dup, 1) := by decide +kernel
theorem dX10_init_69 : decode cX10_init 69 = .ok (.invokespecial 25, 3) := by decide +kernel
theorem dX10_init_72 : decode cX10_init 72 = .ok (.aastore, 1) := by decide +kernel
theorem dX10_init_73 : decode cX10_init 73 = .ok (.putfield 33, 3) := by decide +kernel
theorem dX10_init_76 : decode cX10_init 76 = .ok (.aload_n 0, 1) := by decide +kernel
theorem dX10_init_77 : decode cX10_init 77 = .ok (.iconst 2, 1) := by decide +kernel
theorem dX10_init_78 : decode cX10_init 78 = .ok (.newarray .boolean, 2) := by decide +kernel
theorem dX10_init_80 : decode cX10_init 80 = .ok (.putfield 37, 3) := by decide +kernel
theorem dX10_init_83 : decode cX10_init 83 = .ok (.aload_n 0, 1) := by decide +kernel
theorem dX10_init_84 : decode cX10_init 84 = .ok (.lconst 0, 1) := by decide +kernel
theorem dX10_init_85 : decode cX10_init 85 = .ok (.putfield 41, 3) := by decide +kernel
theorem dX10_init_88 : decode cX10_init 88 = .ok (.aload_n 0, 1) := by decide +kernel
theorem dX10_init_89 : decode cX10_init 89 = .ok (.lconst 1, 1) := by decide +kernel
theorem dX10_init_90 : decode cX10_init 90 = .ok (.putfield 45, 3) := by decide +kernel
theorem dX10_init_93 : decode cX10_init 93 = .ok (.return_, 1) := by decide +kernel
theorem dX10_house_0 : decode cX10_house 0 = .ok (.aload_n 0, 1) := by decide +kernel
theorem dX10_house_1 : decode cX10_house 1 = .ok (.getfield 26, 3) := by decide +kernel
theorem dX10_house_4 : decode cX10_house 4 = .ok (.getfield 48, 3) := by decide +kernel
theorem dX10_house_7 : decode cX10_house 7 = .ok (.istore_n 1, 1) := by decide +kernel
theorem dX10_house_8 : decode cX10_house 8 = .ok (.aload_n 0, 1) := by decide +kernel
theorem dX10_house_9 : decode cX10_house 9 = .ok (.getfield 26, 3) := by decide +kernel
theorem dX10_house_12 : decode cX10_house 12 = .ok (.invokevirtual 52, 3) := by decide +kernel
theorem dX10_house_15 : decode cX10_house 15 = .ok (.iload_n 1, 1) := by decide +kernel
theorem dX10_house_16 : decode cX10_house 16 = .ok (.ireturn, 1) := by decide +kernel
theorem dX10_door_0 : decode cX10_door 0 = .ok (.iload_n 1, 1) := by decide +kernel
theorem dX10_door_1 : decode cX10_door 1 = .ok (.invokestatic 55, 3) := by decide +kernel
theorem dX10_door_4 : decode cX10_door 4 = .ok (.ifCond .eq 25, 3) := by decide +kernel
theorem dX10_door_7 : decode cX10_door 7 = .ok (.iload_n 2, 1) := by decide +kernel
theorem dX10_door_8 : decode cX10_door 8 = .ok (.invokestatic 55, 3) := by decide +kernel
theorem dX10_door_11 : decode cX10_door 11 = .ok (.ifCond .eq 18, 3) := by decide +kernel
theorem dX10_door_14 : decode cX10_door 14 = .ok (.iload_n 1, 1) := by decide +kernel
theorem dX10_door_15 : decode cX10_door 15 = .ok (.iload_n 2, 1) := by decide +kernel
theorem dX10_door_16 : decode cX10_door 16 = .ok (.if_icmp .eq 13, 3) := by decide +kernel
theorem dX10_door_19 : decode cX10_door 19 = .ok (.iload_n 3, 1) := by decide +kernel
theorem dX10_door_20 : decode cX10_door 20 = .ok (.iconst 1, 1) := by decide +kernel
theorem dX10_door_21 : decode cX10_door 21 = .ok (.bipush 9, 2) := by decide +kernel
theorem dX10_door_23 : decode cX10_door 23 = .ok (.invokestatic 59, 3) := by decide +kernel
theorem dX10_door_26 : decode cX10_door 26 = .ok (.ifCond .ne 16, 3) := by decide +kernel
theorem dX10_door_29 : decode cX10_door 29 = .ok (.aload_n 0, 1) := by decide +kernel
theorem dX10_door_30 : decode cX10_door 30 = .ok (.dup, 1) := by decide +kernel
theorem dX10_door_31 : decode cX10_door 31 = .ok (.getfield 63, 3) := by decide +kernel
theorem dX10_door_34 : decode cX10_door 34 = .ok (.iconst 1, 1) := by decide +kernel
theorem dX10_door_35 : decode cX10_door 35 = .ok (.iadd, 1) := by decide +kernel
theorem dX10_door_36 : decode cX10_door 36 = .ok (.putfield 63, 3) := by decide +kernel
theorem dX10_door_39 : decode cX10_door 39 = .ok (.bipush (-10), 2) := by decide +kernel
theorem dX10_door_41 : decode cX10_door 41 = .ok (.ireturn, 1) := by decide +kernel
theorem dX10_door_42 : decode cX10_door 42 = .ok (.aload_n 0, 1) := by decide +kernel
theorem dX10_door_43 : decode cX10_door 43 = .ok (.getfield 26, 3) := by decide +kernel
theorem dX10_door_46 : decode cX10_door 46 = .ok (.iload_n 1, 1) := by decide +kernel
theorem dX10_door_47 : decode cX10_door 47 = .ok (.iload_n 2, 1) := by decide +kernel
theorem dX10_door_48 : decode cX10_door 48 = .ok (.invokevirtual 66, 3) := by decide +kernel
theorem dX10_door_51 : decode cX10_door 51 = .ok (.istore 4, 2) := by decide +kernel
theorem dX10_door_53 : decode cX10_door 53 = .ok (.aload_n 0, 1) := by decide +kernel
theorem dX10_door_54 : decode cX10_door 54 = .ok (.getfield 26, 3) := by decide +kernel
theorem dX10_door_57 : decode cX10_door 57 = .ok (.iload_n 1, 1) := by decide +kernel
theorem dX10_door_58 : decode cX10_door 58 = .ok (.iload_n 2, 1) := by decide +kernel
theorem dX10_door_59 : decode cX10_door 59 = .ok (.iload_n 3, 1) := by decide +kernel
theorem dX10_door_60 : decode cX10_door 60 = .ok (.invokevirtual 70, 3) := by decide +kernel
theorem dX10_door_63 : decode cX10_door 63 = .ok (.iload 4, 2) := by decide +kernel
theorem dX10_door_65 : decode cX10_door 65 = .ok (.ireturn, 1) := by decide +kernel
theorem dX10_alarm_0 : decode cX10_alarm 0 = .ok (.iload_n 1, 1) := by decide +kernel
theorem dX10_alarm_1 : decode cX10_alarm 1 = .ok (.iconst 0, 1) := by decide +kernel
theorem dX10_alarm_2 : decode cX10_alarm 2 = .ok (.iconst 5, 1) := by decide +kernel
theorem dX10_alarm_3 : decode cX10_alarm 3 = .ok (.invokestatic 59, 3) := by decide +kernel
theorem dX10_alarm_6 : decode cX10_alarm 6 = .ok (.ifCond .eq 20, 3) := by decide +kernel
theorem dX10_alarm_9 : decode cX10_alarm 9 = .ok (.iload_n 2, 1) := by decide +kernel
theorem dX10_alarm_10 : decode cX10_alarm 10 = .ok (.invokestatic 55, 3) := by decide +kernel
theorem dX10_alarm_13 : decode cX10_alarm 13 = .ok (.ifCond .eq 13, 3) := by decide +kernel
theorem dX10_alarm_16 : decode cX10_alarm 16 = .ok (.iload_n 3, 1) := by decide +kernel
theorem dX10_alarm_17 : decode cX10_alarm 17 = .ok (.iconst 0, 1) := by decide +kernel
theorem dX10_alarm_18 : decode cX10_alarm 18 = .ok (.bipush 99, 2) := by decide +kernel
theorem dX10_alarm_20 : decode cX10_alarm 20 = .ok (.invokestatic 59, 3) := by decide +kernel
theorem dX10_alarm_23 : decode cX10_alarm 23 = .ok (.ifCond .ne 8, 3) := by decide +kernel
theorem dX10_alarm_26 : decode cX10_alarm 26 = .ok (.aload_n 0, 1) := by decide +kernel
theorem dX10_alarm_27 : decode cX10_alarm 27 = .ok (.invokevirtual 74, 3) := by decide +kernel
theorem dX10_alarm_30 : decode cX10_alarm 30 = .ok (.ireturn, 1) := by decide +kernel
theorem dX10_alarm_31 : decode cX10_alarm 31 = .ok (.aload_n 0, 1) := by decide +kernel
theorem dX10_alarm_32 : decode cX10_alarm 32 = .ok (.getfield 26, 3) := by decide +kernel
theorem dX10_alarm_35 : decode cX10_alarm 35 = .ok (.getfield 48, 3) := by decide +kernel
theorem dX10_alarm_38 : decode cX10_alarm 38 = .ok (.bipush 6, 2) := by decide +kernel
theorem dX10_alarm_40 : decode cX10_alarm 40 = .ok (.if_icmp .lt 8, 3) := by decide +kernel
theorem dX10_alarm_43 : decode cX10_alarm 43 = .ok (.aload_n 0, 1) := by decide +kernel
theorem dX10_alarm_44 : decode cX10_alarm 44 = .ok (.invokevirtual 78, 3) := by decide +kernel
theorem dX10_alarm_47 : decode cX10_alarm 47 = .ok (.ireturn, 1) := by decide +kernel
theorem dX10_alarm_48 : decode cX10_alarm 48 = .ok (.aload_n 0, 1) := by decide +kernel
theorem dX10_alarm_49 : decode cX10_alarm 49 = .ok (.getfield 26, 3) := by decide +kernel
theorem dX10_alarm_52 : decode cX10_alarm 52 = .ok (.iload_n 1, 1) := by decide +kernel
theorem dX10_alarm_53 : decode cX10_alarm 53 = .ok (.iload_n 2, 1) := by decide +kernel
theorem dX10_alarm_54 : decode cX10_alarm 54 = .ok (.iload_n 3, 1) := by decide +kernel
theorem dX10_alarm_55 : decode cX10_alarm 55 = .ok (.invokevirtual 81, 3) := by decide +kernel
theorem dX10_alarm_58 : decode cX10_alarm 58 = .ok (.aload_n 0, 1) := by decide +kernel
theorem dX10_alarm_59 : decode cX10_alarm 59 = .ok (.getfield 26, 3) := by decide +kernel
theorem dX10_alarm_62 : decode cX10_alarm 62 = .ok (.getfield 48, 3) := by decide +kernel
theorem dX10_alarm_65 : decode cX10_alarm 65 = .ok (.iconst 1, 1) := by decide +kernel
theorem dX10_alarm_66 : decode cX10_alarm 66 = .ok (.isub, 1) := by decide +kernel
theorem dX10_alarm_67 : decode cX10_alarm 67 = .ok (.ireturn, 1) := by decide +kernel
theorem dX10_type_0 : decode cX10_type 0 = .ok (.iload_n 1, 1) := by decide +kernel
theorem dX10_type_1 : decode cX10_type 1 = .ok (.iconst 0, 1) := by decide +kernel
theorem dX10_type_2 : decode cX10_type 2 = .ok (.bipush 127, 2) := by decide +kernel
theorem dX10_type_4 : decode cX10_type 4 = .ok (.invokestatic 59, 3) := by decide +kernel
theorem dX10_type_7 : decode cX10_type 7 = .ok (.ifCond .ne 8, 3) := by decide +kernel
theorem dX10_type_10 : decode cX10_type 10 = .ok (.aload_n 0, 1) := by decide +kernel
theorem dX10_type_11 : decode cX10_type 11 = .ok (.invokevirtual 74, 3) := by decide +kernel
theorem dX10_type_14 : decode cX10_type 14 = .ok (.ireturn, 1) := by decide +kernel
theorem dX10_type_15 : decode cX10_type 15 = .ok (.aload_n 0, 1) := by decide +kernel
theorem dX10_type_16 : decode cX10_type 16 = .ok (.getfield 10, 3) := by decide +kernel
theorem dX10_type_19 : decode cX10_type 19 = .ok (.getfield 84, 3) := by decide +kernel
theorem dX10_type_22 : decode cX10_type 22 = .ok (.sipush 150, 3) := by decide +kernel
theorem dX10_type_25 : decode cX10_type 25 = .ok (.if_icmp .lt 8, 3) := by decide +kernel
theorem dX10_type_28 : decode cX10_type 28 = .ok (.aload_n 0, 1) := by decide +kernel
theorem dX10_type_29 : decode cX10_type 29 = .ok (.invokevirtual 78, 3) := by decide +kernel
theorem dX10_type_32 : decode cX10_type 32 = .ok (.ireturn, 1) := by decide +kernel
theorem dX10_type_33 : decode cX10_type 33 = .ok (.aload_n 0, 1) := by decide +kernel
theorem dX10_type_34 : decode cX10_type 34 = .ok (.getfield 10, 3) := by decide +kernel
theorem dX10_type_37 : decode cX10_type 37 = .ok (.iload_n 1, 1) := by decide +kernel
theorem dX10_type_38 : decode cX10_type 38 = .ok (.i2c, 1) := by decide +kernel
theorem dX10_type_39 : decode cX10_type 39 = .ok (.invokevirtual 87, 3) := by decide +kernel
theorem dX10_type_42 : decode cX10_type 42 = .ok (.aload_n 0, 1) := by decide +kernel
theorem dX10_type_43 : decode cX10_type 43 = .ok (.getfield 10, 3) := by decide +kernel
theorem dX10_type_46 : decode cX10_type 46 = .ok (.getfield 84, 3) := by decide +kernel
theorem dX10_type_49 : decode cX10_type 49 = .ok (.ireturn, 1) := by decide +kernel
theorem dX10_clear_0 : decode cX10_clear 0 = .ok (.aload_n 0, 1) := by decide +kernel
theorem dX10_clear_1 : decode cX10_clear 1 = .ok (.getfield 10, 3) := by decide +kernel
theorem dX10_clear_4 : decode cX10_clear 4 = .ok (.getfield 84, 3) := by decide +kernel
theorem dX10_clear_7 : decode cX10_clear 7 = .ok (.istore_n 1, 1) := by decide +kernel
theorem dX10_clear_8 : decode cX10_clear 8 = .ok (.aload_n 0, 1) := by decide +kernel
theorem dX10_clear_9 : decode cX10_clear 9 = .ok (.getfield 10, 3) := by decide +kernel
theorem dX10_clear_12 : decode cX10_clear 12 = .ok (.iconst 0, 1) := by decide +kernel
theorem dX10_clear_13 : decode cX10_clear 13 = .ok (.putfield 84, 3) := by decide +kernel
theorem dX10_clear_16 : decode cX10_clear 16 = .ok (.iload_n 1, 1) := by decide +kernel
theorem dX10_clear_17 : decode cX10_clear 17 = .ok (.ireturn, 1) := by decide +kernel
theorem dX10_read_0 : decode cX10_read 0 = .ok (.aload_n 0, 1) := by decide +kernel
theorem dX10_read_1 : decode cX10_read 1 = .ok (.getfield 30, 3) := by decide +kernel
theorem dX10_read_4 : decode cX10_read 4 = .ok (.invokevirtual 52, 3) := by decide +kernel
theorem dX10_read_7 : decode cX10_read 7 = .ok (.aload_n 0, 1) := by decide +kernel
theorem dX10_read_8 : decode cX10_read 8 = .ok (.getfield 10, 3) := by decide +kernel
theorem dX10_read_11 : decode cX10_read 11 = .ok (.aload_n 0, 1) := by decide +kernel
theorem dX10_read_12 : decode cX10_read 12 = .ok (.getfield 30, 3) := by decide +kernel
theorem dX10_read_15 : decode cX10_read 15 = .ok (.invokevirtual 91, 3) := by decide +kernel
theorem dX10_read_18 : decode cX10_read 18 = .ok (.istore_n 1, 1) := by decide +kernel
theorem dX10_read_19 : decode cX10_read 19 = .ok (.iload_n 1, 1) := by decide +kernel
theorem dX10_read_20 : decode cX10_read 20 = .ok (.ifCond .le 21, 3) := by decide +kernel
theorem dX10_read_23 : decode cX10_read 23 = .ok (.aload_n 0, 1) := by decide +kernel
theorem dX10_read_24 : decode cX10_read 24 = .ok (.getfield 26, 3) := by decide +kernel
theorem dX10_read_27 : decode cX10_read 27 = .ok (.astore_n 2, 1) := by decide +kernel
theorem dX10_read_28 : decode cX10_read 28 = .ok (.aload_n 0, 1) := by decide +kernel
theorem dX10_read_29 : decode cX10_read 29 = .ok (.aload_n 0, 1) := by decide +kernel
theorem dX10_read_30 : decode cX10_read 30 = .ok (.getfield 30, 3) := by decide +kernel
theorem dX10_read_33 : decode cX10_read 33 = .ok (.putfield 26, 3) := by decide +kernel
theorem dX10_read_36 : decode cX10_read 36 = .ok (.aload_n 0, 1) := by decide +kernel
theorem dX10_read_37 : decode cX10_read 37 = .ok (.aload_n 2, 1) := by decide +kernel
theorem dX10_read_38 : decode cX10_read 38 = .ok (.putfield 30, 3) := by decide +kernel
theorem dX10_read_41 : decode cX10_read 41 = .ok (.iload_n 1, 1) := by decide +kernel
theorem dX10_read_42 : decode cX10_read 42 = .ok (.ireturn, 1) := by decide +kernel
theorem dX10_waits_0 : decode cX10_waits 0 = .ok (.iload_n 1, 1) := by decide +kernel
theorem dX10_waits_1 : decode cX10_waits 1 = .ok (.iconst 1, 1) := by decide +kernel
theorem dX10_waits_2 : decode cX10_waits 2 = .ok (.bipush 99, 2) := by decide +kernel
theorem dX10_waits_4 : decode cX10_waits 4 = .ok (.invokestatic 59, 3) := by decide +kernel
theorem dX10_waits_7 : decode cX10_waits 7 = .ok (.ifCond .ne 8, 3) := by decide +kernel
theorem dX10_waits_10 : decode cX10_waits 10 = .ok (.aload_n 0, 1) := by decide +kernel
theorem dX10_waits_11 : decode cX10_waits 11 = .ok (.invokevirtual 74, 3) := by decide +kernel
theorem dX10_waits_14 : decode cX10_waits 14 = .ok (.ireturn, 1) := by decide +kernel
theorem dX10_waits_15 : decode cX10_waits 15 = .ok (.aload_n 0, 1) := by decide +kernel
theorem dX10_waits_16 : decode cX10_waits 16 = .ok (.getfield 26, 3) := by decide +kernel
theorem dX10_waits_19 : decode cX10_waits 19 = .ok (.invokevirtual 95, 3) := by decide +kernel
theorem dX10_waits_22 : decode cX10_waits 22 = .ok (.aload_n 0, 1) := by decide +kernel
theorem dX10_waits_23 : decode cX10_waits 23 = .ok (.getfield 26, 3) := by decide +kernel
theorem dX10_waits_26 : decode cX10_waits 26 = .ok (.iload_n 1, 1) := by decide +kernel
theorem dX10_waits_27 : decode cX10_waits 27 = .ok (.invokevirtual 98, 3) := by decide +kernel
theorem dX10_waits_30 : decode cX10_waits 30 = .ok (.aload_n 0, 1) := by decide +kernel
theorem dX10_waits_31 : decode cX10_waits 31 = .ok (.getfield 26, 3) := by decide +kernel
theorem dX10_waits_34 : decode cX10_waits 34 = .ok (.aload_n 0, 1) := by decide +kernel
theorem dX10_waits_35 : decode cX10_waits 35 = .ok (.getfield 26, 3) := by decide +kernel
theorem dX10_waits_38 : decode cX10_waits 38 = .ok (.getfield 102, 3) := by decide +kernel
theorem dX10_waits_41 : decode cX10_waits 41 = .ok (.getfield 106, 3) := by decide +kernel
theorem dX10_waits_44 : decode cX10_waits 44 = .ok (.aload_n 0, 1) := by decide +kernel
theorem dX10_waits_45 : decode cX10_waits 45 = .ok (.getfield 26, 3) := by decide +kernel
theorem dX10_waits_48 : decode cX10_waits 48 = .ok (.getfield 102, 3) := by decide +kernel
theorem dX10_waits_51 : decode cX10_waits 51 = .ok (.getfield 111, 3) := by decide +kernel
theorem dX10_waits_54 : decode cX10_waits 54 = .ok (.invokevirtual 114, 3) := by decide +kernel
theorem dX10_waits_57 : decode cX10_waits 57 = .ok (.ireturn, 1) := by decide +kernel
theorem dX10_walk_0 : decode cX10_walk 0 = .ok (.iload_n 1, 1) := by decide +kernel
theorem dX10_walk_1 : decode cX10_walk 1 = .ok (.invokestatic 55, 3) := by decide +kernel
theorem dX10_walk_4 : decode cX10_walk 4 = .ok (.ifCond .ne 8, 3) := by decide +kernel
theorem dX10_walk_7 : decode cX10_walk 7 = .ok (.aload_n 0, 1) := by decide +kernel
theorem dX10_walk_8 : decode cX10_walk 8 = .ok (.invokevirtual 74, 3) := by decide +kernel
theorem dX10_walk_11 : decode cX10_walk 11 = .ok (.ireturn, 1) := by decide +kernel
theorem dX10_walk_12 : decode cX10_walk 12 = .ok (.aload_n 0, 1) := by decide +kernel
theorem dX10_walk_13 : decode cX10_walk 13 = .ok (.getfield 26, 3) := by decide +kernel
theorem dX10_walk_16 : decode cX10_walk 16 = .ok (.aload_n 0, 1) := by decide +kernel
theorem dX10_walk_17 : decode cX10_walk 17 = .ok (.getfield 26, 3) := by decide +kernel
theorem dX10_walk_20 : decode cX10_walk 20 = .ok (.getfield 102, 3) := by decide +kernel
theorem dX10_walk_23 : decode cX10_walk 23 = .ok (.getfield 106, 3) := by decide +kernel
theorem dX10_walk_26 : decode cX10_walk 26 = .ok (.iload_n 1, 1) := by decide +kernel
theorem dX10_walk_27 : decode cX10_walk 27 = .ok (.invokevirtual 117, 3) := by decide +kernel
theorem dX10_walk_30 : decode cX10_walk 30 = .ok (.istore_n 2, 1) := by decide +kernel
theorem dX10_walk_31 : decode cX10_walk 31 = .ok (.iload_n 2, 1) := by decide +kernel
theorem dX10_walk_32 : decode cX10_walk 32 = .ok (.sipush 1000, 3) := by decide +kernel
theorem dX10_walk_35 : decode cX10_walk 35 = .ok (.if_icmp .lt 8, 3) := by decide +kernel
theorem dX10_walk_38 : decode cX10_walk 38 = .ok (.aload_n 0, 1) := by decide +kernel
theorem dX10_walk_39 : decode cX10_walk 39 = .ok (.invokevirtual 120, 3) := by decide +kernel
theorem dX10_walk_42 : decode cX10_walk 42 = .ok (.ireturn, 1) := by decide +kernel
theorem dX10_walk_43 : decode cX10_walk 43 = .ok (.aload_n 0, 1) := by decide +kernel
theorem dX10_walk_44 : decode cX10_walk 44 = .ok (.getfield 26, 3) := by decide +kernel
theorem dX10_walk_47 : decode cX10_walk 47 = .ok (.invokevirtual 95, 3) := by decide +kernel
theorem dX10_walk_50 : decode cX10_walk 50 = .ok (.aload_n 0, 1) := by decide +kernel
theorem dX10_walk_51 : decode cX10_walk 51 = .ok (.getfield 26, 3) := by decide +kernel
theorem dX10_walk_54 : decode cX10_walk 54 = .ok (.iload_n 2, 1) := by decide +kernel
theorem dX10_walk_55 : decode cX10_walk 55 = .ok (.invokevirtual 98, 3) := by decide +kernel
theorem dX10_walk_58 : decode cX10_walk 58 = .ok (.aload_n 0, 1) := by decide +kernel
theorem dX10_walk_59 : decode cX10_walk 59 = .ok (.getfield 26, 3) := by decide +kernel
theorem dX10_walk_62 : decode cX10_walk 62 = .ok (.getfield 102, 3) := by decide +kernel
theorem dX10_walk_65 : decode cX10_walk 65 = .ok (.iload_n 1, 1) := by decide +kernel
theorem dX10_walk_66 : decode cX10_walk 66 = .ok (.putfield 106, 3) := by decide +kernel
theorem dX10_walk_69 : decode cX10_walk 69 = .ok (.iload_n 2, 1) := by decide +kernel
theorem dX10_walk_70 : decode cX10_walk 70 = .ok (.ireturn, 1) := by decide +kernel
theorem dX10_take_0 : decode cX10_take 0 = .ok (.aload_n 0, 1) := by decide +kernel
theorem dX10_take_1 : decode cX10_take 1 = .ok (.iload_n 1, 1) := by decide +kernel
theorem dX10_take_2 : decode cX10_take 2 = .ok (.invokevirtual 123, 3) := by decide +kernel
theorem dX10_take_5 : decode cX10_take 5 = .ok (.ifCond .eq 12, 3) := by decide +kernel
theorem dX10_take_8 : decode cX10_take 8 = .ok (.iload_n 2, 1) := by decide +kernel
theorem dX10_take_9 : decode cX10_take 9 = .ok (.iconst 0, 1) := by decide +kernel
theorem dX10_take_10 : decode cX10_take 10 = .ok (.iconst 1, 1) := by decide +kernel
theorem dX10_take_11 : decode cX10_take 11 = .ok (.invokestatic 59, 3) := by decide +kernel
theorem dX10_take_14 : decode cX10_take 14 = .ok (.ifCond .ne 8, 3) := by decide +kernel
theorem dX10_take_17 : decode cX10_take 17 = .ok (.aload_n 0, 1) := by decide +kernel
theorem dX10_take_18 : decode cX10_take 18 = .ok (.invokevirtual 74, 3) := by decide +kernel
theorem dX10_take_21 : decode cX10_take 21 = .ok (.ireturn, 1) := by decide +kernel
theorem dX10_take_22 : decode cX10_take 22 = .ok (.aload_n 0, 1) := by decide +kernel
theorem dX10_take_23 : decode cX10_take 23 = .ok (.getfield 26, 3) := by decide +kernel
theorem dX10_take_26 : decode cX10_take 26 = .ok (.getfield 126, 3) := by decide +kernel
theorem dX10_take_29 : decode cX10_take 29 = .ok (.iload_n 1, 1) := by decide +kernel
theorem dX10_take_30 : decode cX10_take 30 = .ok (.iaload, 1) := by decide +kernel
theorem dX10_take_31 : decode cX10_take 31 = .ok (.aload_n 0, 1) := by decide +kernel
theorem dX10_take_32 : decode cX10_take 32 = .ok (.getfield 26, 3) := by decide +kernel
theorem dX10_take_35 : decode cX10_take 35 = .ok (.getfield 102, 3) := by decide +kernel
theorem dX10_take_38 : decode cX10_take 38 = .ok (.getfield 106, 3) := by decide +kernel
theorem dX10_take_41 : decode cX10_take 41 = .ok (.if_icmp .eq 8, 3) := by decide +kernel
theorem dX10_take_44 : decode cX10_take 44 = .ok (.aload_n 0, 1) := by decide +kernel
theorem dX10_take_45 : decode cX10_take 45 = .ok (.invokevirtual 120, 3) := by decide +kernel
theorem dX10_take_48 : decode cX10_take 48 = .ok (.ireturn, 1) := by decide +kernel
theorem dX10_take_49 : decode cX10_take 49 = .ok (.aload_n 0, 1) := by decide +kernel
theorem dX10_take_50 : decode cX10_take 50 = .ok (.getfield 26, 3) := by decide +kernel
theorem dX10_take_53 : decode cX10_take 53 = .ok (.invokevirtual 95, 3) := by decide +kernel
theorem dX10_take_56 : decode cX10_take 56 = .ok (.aload_n 0, 1) := by decide +kernel
theorem dX10_take_57 : decode cX10_take 57 = .ok (.getfield 26, 3) := by decide +kernel
theorem dX10_take_60 : decode cX10_take 60 = .ok (.getfield 102, 3) := by decide +kernel
theorem dX10_take_63 : decode cX10_take 63 = .ok (.iload_n 1, 1) := by decide +kernel
theorem dX10_take_64 : decode cX10_take 64 = .ok (.iload_n 2, 1) := by decide +kernel
theorem dX10_take_65 : decode cX10_take 65 = .ok (.invokevirtual 130, 3) := by decide +kernel
theorem dX10_take_68 : decode cX10_take 68 = .ok (.iconst 1, 1) := by decide +kernel
theorem dX10_take_69 : decode cX10_take 69 = .ok (.ireturn, 1) := by decide +kernel
theorem dX10_battery_0 : decode cX10_battery 0 = .ok (.aload_n 0, 1) := by decide +kernel
theorem dX10_battery_1 : decode cX10_battery 1 = .ok (.iload_n 1, 1) := by decide +kernel
theorem dX10_battery_2 : decode cX10_battery 2 = .ok (.invokevirtual 123, 3) := by decide +kernel
theorem dX10_battery_5 : decode cX10_battery 5 = .ok (.ifCond .eq 13, 3) := by decide +kernel
theorem dX10_battery_8 : decode cX10_battery 8 = .ok (.iload_n 2, 1) := by decide +kernel
theorem dX10_battery_9 : decode cX10_battery 9 = .ok (.iconst 0, 1) := by decide +kernel
theorem dX10_battery_10 : decode cX10_battery 10 = .ok (.bipush 99, 2) := by decide +kernel
theorem dX10_battery_12 : decode cX10_battery 12 = .ok (.invokestatic 59, 3) := by decide +kernel
theorem dX10_battery_15 : decode cX10_battery 15 = .ok (.ifCond .ne 8, 3) := by decide +kernel
theorem dX10_battery_18 : decode cX10_battery 18 = .ok (.aload_n 0, 1) := by decide +kernel
theorem dX10_battery_19 : decode cX10_battery 19 = .ok (.invokevirtual 74, 3) := by decide +kernel
theorem dX10_battery_22 : decode cX10_battery 22 = .ok (.ireturn, 1) := by decide +kernel
theorem dX10_battery_23 : decode cX10_battery 23 = .ok (.aload_n 0, 1) := by decide +kernel
theorem dX10_battery_24 : decode cX10_battery 24 = .ok (.getfield 26, 3) := by decide +kernel
theorem dX10_battery_27 : decode cX10_battery 27 = .ok (.getfield 102, 3) := by decide +kernel
theorem dX10_battery_30 : decode cX10_battery 30 = .ok (.getfield 134, 3) := by decide +kernel
theorem dX10_battery_33 : decode cX10_battery 33 = .ok (.iload_n 1, 1) := by decide +kernel
theorem dX10_battery_34 : decode cX10_battery 34 = .ok (.iaload, 1) := by decide +kernel
theorem dX10_battery_35 : decode cX10_battery 35 = .ok (.istore_n 3, 1) := by decide +kernel
theorem dX10_battery_36 : decode cX10_battery 36 = .ok (.aload_n 0, 1) := by decide +kernel
theorem dX10_battery_37 : decode cX10_battery 37 = .ok (.getfield 26, 3) := by decide +kernel
theorem dX10_battery_40 : decode cX10_battery 40 = .ok (.invokevirtual 95, 3) := by decide +kernel
theorem dX10_battery_43 : decode cX10_battery 43 = .ok (.aload_n 0, 1) := by decide +kernel
theorem dX10_battery_44 : decode cX10_battery 44 = .ok (.getfield 26, 3) := by decide +kernel
theorem dX10_battery_47 : decode cX10_battery 47 = .ok (.getfield 102, 3) := by decide +kernel
theorem dX10_battery_50 : decode cX10_battery 50 = .ok (.getfield 134, 3) := by decide +kernel
theorem dX10_battery_53 : decode cX10_battery 53 = .ok (.iload_n 1, 1) := by decide +kernel
theorem dX10_battery_54 : decode cX10_battery 54 = .ok (.iload_n 2, 1) := by decide +kernel
theorem dX10_battery_55 : decode cX10_battery 55 = .ok (.iastore, 1) := by decide +kernel
theorem dX10_battery_56 : decode cX10_battery 56 = .ok (.iload_n 3, 1) := by decide +kernel
theorem dX10_battery_57 : decode cX10_battery 57 = .ok (.ireturn, 1) := by decide +kernel
theorem dX10_cold_0 : decode cX10_cold 0 = .ok (.iload_n 1, 1) := by decide +kernel
theorem dX10_cold_1 : decode cX10_cold 1 = .ok (.iconst 0, 1) := by decide +kernel
theorem dX10_cold_2 : decode cX10_cold 2 = .ok (.bipush 9, 2) := by decide +kernel
theorem dX10_cold_4 : decode cX10_cold 4 = .ok (.invokestatic 59, 3) := by decide +kernel
theorem dX10_cold_7 : decode cX10_cold 7 = .ok (.ifCond .ne 8, 3) := by decide +kernel
theorem dX10_cold_10 : decode cX10_cold 10 = .ok (.aload_n 0, 1) := by decide +kernel
theorem dX10_cold_11 : decode cX10_cold 11 = .ok (.invokevirtual 74, 3) := by decide +kernel
theorem dX10_cold_14 : decode cX10_cold 14 = .ok (.ireturn, 1) := by decide +kernel
theorem dX10_cold_15 : decode cX10_cold 15 = .ok (.aload_n 0, 1) := by decide +kernel
theorem dX10_cold_16 : decode cX10_cold 16 = .ok (.getfield 26, 3) := by decide +kernel
theorem dX10_cold_19 : decode cX10_cold 19 = .ok (.getfield 102, 3) := by decide +kernel
theorem dX10_cold_22 : decode cX10_cold 22 = .ok (.getfield 137, 3) := by decide +kernel
theorem dX10_cold_25 : decode cX10_cold 25 = .ok (.istore_n 2, 1) := by decide +kernel
theorem dX10_cold_26 : decode cX10_cold 26 = .ok (.aload_n 0, 1) := by decide +kernel
theorem dX10_cold_27 : decode cX10_cold 27 = .ok (.getfield 26, 3) := by decide +kernel
theorem dX10_cold_30 : decode cX10_cold 30 = .ok (.invokevirtual 95, 3) := by decide +kernel
theorem dX10_cold_33 : decode cX10_cold 33 = .ok (.aload_n 0, 1) := by decide +kernel
theorem dX10_cold_34 : decode cX10_cold 34 = .ok (.getfield 26, 3) := by decide +kernel
theorem dX10_cold_37 : decode cX10_cold 37 = .ok (.getfield 102, 3) := by decide +kernel
theorem dX10_cold_40 : decode cX10_cold 40 = .ok (.iload_n 1, 1) := by decide +kernel
theorem dX10_cold_41 : decode cX10_cold 41 = .ok (.putfield 137, 3) := by decide +kernel
theorem dX10_cold_44 : decode cX10_cold 44 = .ok (.iload_n 2, 1) := by decide +kernel
theorem dX10_cold_45 : decode cX10_cold 45 = .ok (.ireturn, 1) := by decide +kernel
theorem dX10_undo_0 : decode cX10_undo 0 = .ok (.aload_n 0, 1) := by decide +kernel
theorem dX10_undo_1 : decode cX10_undo 1 = .ok (.getfield 26, 3) := by decide +kernel
theorem dX10_undo_4 : decode cX10_undo 4 = .ok (.getfield 140, 3) := by decide +kernel
theorem dX10_undo_7 : decode cX10_undo 7 = .ok (.ifCond .gt 8, 3) := by decide +kernel
theorem dX10_undo_10 : decode cX10_undo 10 = .ok (.aload_n 0, 1) := by decide +kernel
theorem dX10_undo_11 : decode cX10_undo 11 = .ok (.invokevirtual 120, 3) := by decide +kernel
theorem dX10_undo_14 : decode cX10_undo 14 = .ok (.ireturn, 1) := by decide +kernel
theorem dX10_undo_15 : decode cX10_undo 15 = .ok (.aload_n 0, 1) := by decide +kernel
theorem dX10_undo_16 : decode cX10_undo 16 = .ok (.getfield 26, 3) := by decide +kernel
theorem dX10_undo_19 : decode cX10_undo 19 = .ok (.invokevirtual 143, 3) := by decide +kernel
theorem dX10_undo_22 : decode cX10_undo 22 = .ok (.aload_n 0, 1) := by decide +kernel
theorem dX10_undo_23 : decode cX10_undo 23 = .ok (.getfield 26, 3) := by decide +kernel
theorem dX10_undo_26 : decode cX10_undo 26 = .ok (.getfield 102, 3) := by decide +kernel
