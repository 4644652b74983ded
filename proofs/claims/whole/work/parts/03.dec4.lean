theorem dX11_through_15 : decode cX11_through 15 = .ok (.aload_n 0, 1) := by decide +kernel
theorem dX11_through_16 : decode cX11_through 16 = .ok (.invokevirtual 60, 3) := by decide +kernel
theorem dX11_through_19 : decode cX11_through 19 = .ok (.ireturn, 1) := by decide +kernel
theorem dX11_through_20 : decode cX11_through 20 = .ok (.aload_n 0, 1) := by decide +kernel
theorem dX11_through_21 : decode cX11_through 21 = .ok (.invokevirtual 146, 3) := by decide +kernel
theorem dX11_through_24 : decode cX11_through 24 = .ok (.aload_n 0, 1) := by decide +kernel
theorem dX11_through_25 : decode cX11_through 25 = .ok (.iload_n 1, 1) := by decide +kernel
theorem dX11_through_26 : decode cX11_through 26 = .ok (.iload_n 2, 1) := by decide +kernel
theorem dX11_through_27 : decode cX11_through 27 = .ok (.invokevirtual 182, 3) := by decide +kernel
theorem dX11_through_30 : decode cX11_through 30 = .ok (.ireturn, 1) := by decide +kernel
theorem dX11_next_0 : decode cX11_next 0 = .ok (.iload_n 2, 1) := by decide +kernel
theorem dX11_next_1 : decode cX11_next 1 = .ok (.iconst 0, 1) := by decide +kernel
theorem dX11_next_2 : decode cX11_next 2 = .ok (.iconst 1, 1) := by decide +kernel
theorem dX11_next_3 : decode cX11_next 3 = .ok (.invokestatic 52, 3) := by decide +kernel
theorem dX11_next_6 : decode cX11_next 6 = .ok (.ifCond .eq 25, 3) := by decide +kernel
theorem dX11_next_9 : decode cX11_next 9 = .ok (.iload_n 2, 1) := by decide +kernel
theorem dX11_next_10 : decode cX11_next 10 = .ok (.ifCond .ne 13, 3) := by decide +kernel
theorem dX11_next_13 : decode cX11_next 13 = .ok (.iload_n 1, 1) := by decide +kernel
theorem dX11_next_14 : decode cX11_next 14 = .ok (.invokestatic 56, 3) := by decide +kernel
theorem dX11_next_17 : decode cX11_next 17 = .ok (.ifCond .ne 19, 3) := by decide +kernel
theorem dX11_next_20 : decode cX11_next 20 = .ok (.goto 11, 3) := by decide +kernel
theorem dX11_next_23 : decode cX11_next 23 = .ok (.aload_n 0, 1) := by decide +kernel
theorem dX11_next_24 : decode cX11_next 24 = .ok (.iload_n 1, 1) := by decide +kernel
theorem dX11_next_25 : decode cX11_next 25 = .ok (.invokevirtual 160, 3) := by decide +kernel
theorem dX11_next_28 : decode cX11_next 28 = .ok (.ifCond .ne 8, 3) := by decide +kernel
theorem dX11_next_31 : decode cX11_next 31 = .ok (.aload_n 0, 1) := by decide +kernel
theorem dX11_next_32 : decode cX11_next 32 = .ok (.invokevirtual 60, 3) := by decide +kernel
theorem dX11_next_35 : decode cX11_next 35 = .ok (.ireturn, 1) := by decide +kernel
theorem dX11_next_36 : decode cX11_next 36 = .ok (.aload_n 0, 1) := by decide +kernel
theorem dX11_next_37 : decode cX11_next 37 = .ok (.invokevirtual 146, 3) := by decide +kernel
theorem dX11_next_40 : decode cX11_next 40 = .ok (.iconst 0, 1) := by decide +kernel
theorem dX11_next_41 : decode cX11_next 41 = .ok (.istore_n 3, 1) := by decide +kernel
theorem dX11_next_42 : decode cX11_next 42 = .ok (.iload_n 3, 1) := by decide +kernel
theorem dX11_next_43 : decode cX11_next 43 = .ok (.bipush 120, 2) := by decide +kernel
theorem dX11_next_45 : decode cX11_next 45 = .ok (.if_icmp .gt 72, 3) := by decide +kernel
theorem dX11_next_48 : decode cX11_next 48 = .ok (.aload_n 0, 1) := by decide +kernel
theorem dX11_next_49 : decode cX11_next 49 = .ok (.getfield 7, 3) := by decide +kernel
theorem dX11_next_52 : decode cX11_next 52 = .ok (.bipush 90, 2) := by decide +kernel
theorem dX11_next_54 : decode cX11_next 54 = .ok (.iaload, 1) := by decide +kernel
theorem dX11_next_55 : decode cX11_next 55 = .ok (.iload_n 3, 1) := by decide +kernel
theorem dX11_next_56 : decode cX11_next 56 = .ok (.iadd, 1) := by decide +kernel
theorem dX11_next_57 : decode cX11_next 57 = .ok (.istore 4, 2) := by decide +kernel
theorem dX11_next_59 : decode cX11_next 59 = .ok (.iload_n 2, 1) := by decide +kernel
theorem dX11_next_60 : decode cX11_next 60 = .ok (.ifCond .ne 28, 3) := by decide +kernel
theorem dX11_next_63 : decode cX11_next 63 = .ok (.aload_n 0, 1) := by decide +kernel
theorem dX11_next_64 : decode cX11_next 64 = .ok (.iload_n 1, 1) := by decide +kernel
theorem dX11_next_65 : decode cX11_next 65 = .ok (.iload 4, 2) := by decide +kernel
theorem dX11_next_67 : decode cX11_next 67 = .ok (.aload_n 0, 1) := by decide +kernel
theorem dX11_next_68 : decode cX11_next 68 = .ok (.getfield 7, 3) := by decide +kernel
theorem dX11_next_71 : decode cX11_next 71 = .ok (.bipush 92, 2) := by decide +kernel
theorem dX11_next_73 : decode cX11_next 73 = .ok (.iaload, 1) := by decide +kernel
theorem dX11_next_74 : decode cX11_next 74 = .ok (.invokevirtual 149, 3) := by decide +kernel
theorem dX11_next_77 : decode cX11_next 77 = .ok (.ifCond .eq 7, 3) := by decide +kernel
theorem dX11_next_80 : decode cX11_next 80 = .ok (.iconst 1, 1) := by decide +kernel
theorem dX11_next_81 : decode cX11_next 81 = .ok (.goto 21, 3) := by decide +kernel
theorem dX11_next_84 : decode cX11_next 84 = .ok (.iconst 0, 1) := by decide +kernel
theorem dX11_next_85 : decode cX11_next 85 = .ok (.goto 17, 3) := by decide +kernel
theorem dX11_next_88 : decode cX11_next 88 = .ok (.aload_n 0, 1) := by decide +kernel
theorem dX11_next_89 : decode cX11_next 89 = .ok (.iload_n 1, 1) := by decide +kernel
theorem dX11_next_90 : decode cX11_next 90 = .ok (.iload 4, 2) := by decide +kernel
theorem dX11_next_92 : decode cX11_next 92 = .ok (.aload_n 0, 1) := by decide +kernel
theorem dX11_next_93 : decode cX11_next 93 = .ok (.getfield 7, 3) := by decide +kernel
theorem dX11_next_96 : decode cX11_next 96 = .ok (.bipush 92, 2) := by decide +kernel
theorem dX11_next_98 : decode cX11_next 98 = .ok (.iaload, 1) := by decide +kernel
theorem dX11_next_99 : decode cX11_next 99 = .ok (.invokevirtual 176, 3) := by decide +kernel
theorem dX11_next_102 : decode cX11_next 102 = .ok (.istore 5, 2) := by decide +kernel
theorem dX11_next_104 : decode cX11_next 104 = .ok (.iload 5, 2) := by decide +kernel
theorem dX11_next_106 : decode cX11_next 106 = .ok (.ifCond .eq 5, 3) := by decide +kernel
theorem dX11_next_109 : decode cX11_next 109 = .ok (.iload_n 3, 1) := by decide +kernel
theorem dX11_next_110 : decode cX11_next 110 = .ok (.ireturn, 1) := by decide +kernel
theorem dX11_next_111 : decode cX11_next 111 = .ok (.iinc 3 1, 3) := by decide +kernel
theorem dX11_next_114 : decode cX11_next 114 = .ok (.goto (-72), 3) := by decide +kernel
theorem dX11_next_117 : decode cX11_next 117 = .ok (.iconst (-1), 1) := by decide +kernel
theorem dX11_next_118 : decode cX11_next 118 = .ok (.ireturn, 1) := by decide +kernel
theorem dX11_beepsEver_0 : decode cX11_beepsEver 0 = .ok (.iconst 0, 1) := by decide +kernel
theorem dX11_beepsEver_1 : decode cX11_beepsEver 1 = .ok (.istore_n 3, 1) := by decide +kernel
theorem dX11_beepsEver_2 : decode cX11_beepsEver 2 = .ok (.iconst 0, 1) := by decide +kernel
theorem dX11_beepsEver_3 : decode cX11_beepsEver 3 = .ok (.istore 4, 2) := by decide +kernel
theorem dX11_beepsEver_5 : decode cX11_beepsEver 5 = .ok (.iload 4, 2) := by decide +kernel
theorem dX11_beepsEver_7 : decode cX11_beepsEver 7 = .ok (.sipush 1230, 3) := by decide +kernel
theorem dX11_beepsEver_10 : decode cX11_beepsEver 10 = .ok (.if_icmp .ge 46, 3) := by decide +kernel
theorem dX11_beepsEver_13 : decode cX11_beepsEver 13 = .ok (.iload_n 3, 1) := by decide +kernel
theorem dX11_beepsEver_14 : decode cX11_beepsEver 14 = .ok (.ifCond .ne 30, 3) := by decide +kernel
theorem dX11_beepsEver_17 : decode cX11_beepsEver 17 = .ok (.aload_n 0, 1) := by decide +kernel
theorem dX11_beepsEver_18 : decode cX11_beepsEver 18 = .ok (.getfield 7, 3) := by decide +kernel
theorem dX11_beepsEver_21 : decode cX11_beepsEver 21 = .ok (.bipush 65, 2) := by decide +kernel
theorem dX11_beepsEver_23 : decode cX11_beepsEver 23 = .ok (.iload_n 1, 1) := by decide +kernel
theorem dX11_beepsEver_24 : decode cX11_beepsEver 24 = .ok (.iadd, 1) := by decide +kernel
theorem dX11_beepsEver_25 : decode cX11_beepsEver 25 = .ok (.iaload, 1) := by decide +kernel
theorem dX11_beepsEver_26 : decode cX11_beepsEver 26 = .ok (.aload_n 0, 1) := by decide +kernel
theorem dX11_beepsEver_27 : decode cX11_beepsEver 27 = .ok (.getfield 7, 3) := by decide +kernel
theorem dX11_beepsEver_30 : decode cX11_beepsEver 30 = .ok (.bipush 94, 2) := by decide +kernel
theorem dX11_beepsEver_32 : decode cX11_beepsEver 32 = .ok (.iload_n 1, 1) := by decide +kernel
theorem dX11_beepsEver_33 : decode cX11_beepsEver 33 = .ok (.iadd, 1) := by decide +kernel
theorem dX11_beepsEver_34 : decode cX11_beepsEver 34 = .ok (.iaload, 1) := by decide +kernel
theorem dX11_beepsEver_35 : decode cX11_beepsEver 35 = .ok (.iload 4, 2) := by decide +kernel
theorem dX11_beepsEver_37 : decode cX11_beepsEver 37 = .ok (.iload_n 2, 1) := by decide +kernel
theorem dX11_beepsEver_38 : decode cX11_beepsEver 38 = .ok (.invokestatic 172, 3) := by decide +kernel
theorem dX11_beepsEver_41 : decode cX11_beepsEver 41 = .ok (.ifCond .eq 7, 3) := by decide +kernel
theorem dX11_beepsEver_44 : decode cX11_beepsEver 44 = .ok (.iconst 1, 1) := by decide +kernel
theorem dX11_beepsEver_45 : decode cX11_beepsEver 45 = .ok (.goto 4, 3) := by decide +kernel
theorem dX11_beepsEver_48 : decode cX11_beepsEver 48 = .ok (.iconst 0, 1) := by decide +kernel
theorem dX11_beepsEver_49 : decode cX11_beepsEver 49 = .ok (.istore_n 3, 1) := by decide +kernel
theorem dX11_beepsEver_50 : decode cX11_beepsEver 50 = .ok (.iinc 4 1, 3) := by decide +kernel
theorem dX11_beepsEver_53 : decode cX11_beepsEver 53 = .ok (.goto (-48), 3) := by decide +kernel
theorem dX11_beepsEver_56 : decode cX11_beepsEver 56 = .ok (.iload_n 3, 1) := by decide +kernel
theorem dX11_beepsEver_57 : decode cX11_beepsEver 57 = .ok (.ireturn, 1) := by decide +kernel
theorem dX11_coldest_0 : decode cX11_coldest 0 = .ok (.aload_n 0, 1) := by decide +kernel
theorem dX11_coldest_1 : decode cX11_coldest 1 = .ok (.iload_n 1, 1) := by decide +kernel
theorem dX11_coldest_2 : decode cX11_coldest 2 = .ok (.invokevirtual 160, 3) := by decide +kernel
theorem dX11_coldest_5 : decode cX11_coldest 5 = .ok (.ifCond .ne 8, 3) := by decide +kernel
theorem dX11_coldest_8 : decode cX11_coldest 8 = .ok (.aload_n 0, 1) := by decide +kernel
theorem dX11_coldest_9 : decode cX11_coldest 9 = .ok (.invokevirtual 60, 3) := by decide +kernel
theorem dX11_coldest_12 : decode cX11_coldest 12 = .ok (.ireturn, 1) := by decide +kernel
theorem dX11_coldest_13 : decode cX11_coldest 13 = .ok (.iconst 0, 1) := by decide +kernel
theorem dX11_coldest_14 : decode cX11_coldest 14 = .ok (.istore_n 2, 1) := by decide +kernel
theorem dX11_coldest_15 : decode cX11_coldest 15 = .ok (.iload_n 2, 1) := by decide +kernel
theorem dX11_coldest_16 : decode cX11_coldest 16 = .ok (.bipush 10, 2) := by decide +kernel
theorem dX11_coldest_18 : decode cX11_coldest 18 = .ok (.if_icmp .ge 20, 3) := by decide +kernel
theorem dX11_coldest_21 : decode cX11_coldest 21 = .ok (.aload_n 0, 1) := by decide +kernel
theorem dX11_coldest_22 : decode cX11_coldest 22 = .ok (.iload_n 1, 1) := by decide +kernel
theorem dX11_coldest_23 : decode cX11_coldest 23 = .ok (.iload_n 2, 1) := by decide +kernel
theorem dX11_coldest_24 : decode cX11_coldest 24 = .ok (.invokevirtual 185, 3) := by decide +kernel
theorem dX11_coldest_27 : decode cX11_coldest 27 = .ok (.ifCond .eq 5, 3) := by decide +kernel
theorem dX11_coldest_30 : decode cX11_coldest 30 = .ok (.iload_n 2, 1) := by decide +kernel
theorem dX11_coldest_31 : decode cX11_coldest 31 = .ok (.ireturn, 1) := by decide +kernel
theorem dX11_coldest_32 : decode cX11_coldest 32 = .ok (.iinc 2 1, 3) := by decide +kernel
theorem dX11_coldest_35 : decode cX11_coldest 35 = .ok (.goto (-20), 3) := by decide +kernel
theorem dX11_coldest_38 : decode cX11_coldest 38 = .ok (.iconst (-1), 1) := by decide +kernel
theorem dX11_coldest_39 : decode cX11_coldest 39 = .ok (.ireturn, 1) := by decide +kernel
theorem dX11_alikeBy_0 : decode cX11_alikeBy 0 = .ok (.iconst 0, 1) := by decide +kernel
theorem dX11_alikeBy_1 : decode cX11_alikeBy 1 = .ok (.istore 4, 2) := by decide +kernel
theorem dX11_alikeBy_3 : decode cX11_alikeBy 3 = .ok (.iconst 0, 1) := by decide +kernel
theorem dX11_alikeBy_4 : decode cX11_alikeBy 4 = .ok (.istore 5, 2) := by decide +kernel
theorem dX11_alikeBy_6 : decode cX11_alikeBy 6 = .ok (.iload 5, 2) := by decide +kernel
theorem dX11_alikeBy_8 : decode cX11_alikeBy 8 = .ok (.aload_n 0, 1) := by decide +kernel
theorem dX11_alikeBy_9 : decode cX11_alikeBy 9 = .ok (.getfield 7, 3) := by decide +kernel
theorem dX11_alikeBy_12 : decode cX11_alikeBy 12 = .ok (.bipush 64, 2) := by decide +kernel
theorem dX11_alikeBy_14 : decode cX11_alikeBy 14 = .ok (.iaload, 1) := by decide +kernel
theorem dX11_alikeBy_15 : decode cX11_alikeBy 15 = .ok (.if_icmp .ge 47, 3) := by decide +kernel
theorem dX11_alikeBy_18 : decode cX11_alikeBy 18 = .ok (.iload 4, 2) := by decide +kernel
theorem dX11_alikeBy_20 : decode cX11_alikeBy 20 = .ok (.iload_n 2, 1) := by decide +kernel
theorem dX11_alikeBy_21 : decode cX11_alikeBy 21 = .ok (.iload 5, 2) := by decide +kernel
theorem dX11_alikeBy_23 : decode cX11_alikeBy 23 = .ok (.invokestatic 166, 3) := by decide +kernel
theorem dX11_alikeBy_26 : decode cX11_alikeBy 26 = .ok (.ifCond .eq 26, 3) := by decide +kernel
theorem dX11_alikeBy_29 : decode cX11_alikeBy 29 = .ok (.aload_n 0, 1) := by decide +kernel
theorem dX11_alikeBy_30 : decode cX11_alikeBy 30 = .ok (.iload_n 1, 1) := by decide +kernel
theorem dX11_alikeBy_31 : decode cX11_alikeBy 31 = .ok (.iload 5, 2) := by decide +kernel
theorem dX11_alikeBy_33 : decode cX11_alikeBy 33 = .ok (.invokevirtual 182, 3) := by decide +kernel
theorem dX11_alikeBy_36 : decode cX11_alikeBy 36 = .ok (.aload_n 0, 1) := by decide +kernel
theorem dX11_alikeBy_37 : decode cX11_alikeBy 37 = .ok (.iload_n 1, 1) := by decide +kernel
theorem dX11_alikeBy_38 : decode cX11_alikeBy 38 = .ok (.iload_n 3, 1) := by decide +kernel
theorem dX11_alikeBy_39 : decode cX11_alikeBy 39 = .ok (.invokevirtual 182, 3) := by decide +kernel
theorem dX11_alikeBy_42 : decode cX11_alikeBy 42 = .ok (.if_icmp .ne 10, 3) := by decide +kernel
theorem dX11_alikeBy_45 : decode cX11_alikeBy 45 = .ok (.iconst 1, 1) := by decide +kernel
theorem dX11_alikeBy_46 : decode cX11_alikeBy 46 = .ok (.iload 5, 2) := by decide +kernel
theorem dX11_alikeBy_48 : decode cX11_alikeBy 48 = .ok (.ishl, 1) := by decide +kernel
theorem dX11_alikeBy_49 : decode cX11_alikeBy 49 = .ok (.goto 4, 3) := by decide +kernel
theorem dX11_alikeBy_52 : decode cX11_alikeBy 52 = .ok (.iconst 0, 1) := by decide +kernel
theorem dX11_alikeBy_53 : decode cX11_alikeBy 53 = .ok (.ior, 1) := by decide +kernel
theorem dX11_alikeBy_54 : decode cX11_alikeBy 54 = .ok (.istore 4, 2) := by decide +kernel
theorem dX11_alikeBy_56 : decode cX11_alikeBy 56 = .ok (.iinc 5 1, 3) := by decide +kernel
theorem dX11_alikeBy_59 : decode cX11_alikeBy 59 = .ok (.goto (-53), 3) := by decide +kernel
theorem dX11_alikeBy_62 : decode cX11_alikeBy 62 = .ok (.iload 4, 2) := by decide +kernel
theorem dX11_alikeBy_64 : decode cX11_alikeBy 64 = .ok (.ireturn, 1) := by decide +kernel
theorem dX11_laySure_0 : decode cX11_laySure 0 = .ok (.iconst 0, 1) := by decide +kernel
theorem dX11_laySure_1 : decode cX11_laySure 1 = .ok (.istore_n 1, 1) := by decide +kernel
theorem dX11_laySure_2 : decode cX11_laySure 2 = .ok (.iload_n 1, 1) := by decide +kernel
theorem dX11_laySure_3 : decode cX11_laySure 3 = .ok (.iconst 1, 1) := by decide +kernel
theorem dX11_laySure_4 : decode cX11_laySure 4 = .ok (.aload_n 0, 1) := by decide +kernel
theorem dX11_laySure_5 : decode cX11_laySure 5 = .ok (.getfield 7, 3) := by decide +kernel
theorem dX11_laySure_8 : decode cX11_laySure 8 = .ok (.bipush 64, 2) := by decide +kernel
theorem dX11_laySure_10 : decode cX11_laySure 10 = .ok (.iaload, 1) := by decide +kernel
theorem dX11_laySure_11 : decode cX11_laySure 11 = .ok (.ishl, 1) := by decide +kernel
theorem dX11_laySure_12 : decode cX11_laySure 12 = .ok (.if_icmp .ge 228, 3) := by decide +kernel
theorem dX11_laySure_15 : decode cX11_laySure 15 = .ok (.aload_n 0, 1) := by decide +kernel
theorem dX11_laySure_16 : decode cX11_laySure 16 = .ok (.getfield 36, 3) := by decide +kernel
theorem dX11_laySure_19 : decode cX11_laySure 19 = .ok (.iload_n 1, 1) := by decide +kernel
theorem dX11_laySure_20 : decode cX11_laySure 20 = .ok (.iload_n 1, 1) := by decide +kernel
theorem dX11_laySure_21 : decode cX11_laySure 21 = .ok (.invokestatic 188, 3) := by decide +kernel
theorem dX11_laySure_24 : decode cX11_laySure 24 = .ok (.iconst 2, 1) := by decide +kernel
theorem dX11_laySure_25 : decode cX11_laySure 25 = .ok (.if_icmp .ge 7, 3) := by decide +kernel
theorem dX11_laySure_28 : decode cX11_laySure 28 = .ok (.iconst 0, 1) := by decide +kernel
theorem dX11_laySure_29 : decode cX11_laySure 29 = .ok (.goto 4, 3) := by decide +kernel
theorem dX11_laySure_32 : decode cX11_laySure 32 = .ok (.iconst (-1), 1) := by decide +kernel
theorem dX11_laySure_33 : decode cX11_laySure 33 = .ok (.iastore, 1) := by decide +kernel
theorem dX11_laySure_34 : decode cX11_laySure 34 = .ok (.aload_n 0, 1) := by decide +kernel
theorem dX11_laySure_35 : decode cX11_laySure 35 = .ok (.getfield 39, 3) := by decide +kernel
theorem dX11_laySure_38 : decode cX11_laySure 38 = .ok (.iload_n 1, 1) := by decide +kernel
theorem dX11_laySure_39 : decode cX11_laySure 39 = .ok (.iconst 0, 1) := by decide +kernel
theorem dX11_laySure_40 : decode cX11_laySure 40 = .ok (.iastore, 1) := by decide +kernel
theorem dX11_laySure_41 : decode cX11_laySure 41 = .ok (.iconst 0, 1) := by decide +kernel
theorem dX11_laySure_42 : decode cX11_laySure 42 = .ok (.istore_n 2, 1) := by decide +kernel
theorem dX11_laySure_43 : decode cX11_laySure 43 = .ok (.iload_n 2, 1) := by decide +kernel
theorem dX11_laySure_44 : decode cX11_laySure 44 = .ok (.bipush 8, 2) := by decide +kernel
theorem dX11_laySure_46 : decode cX11_laySure 46 = .ok (.if_icmp .ge 188, 3) := by decide +kernel
theorem dX11_laySure_49 : decode cX11_laySure 49 = .ok (.iload_n 1, 1) := by decide +kernel
theorem dX11_laySure_50 : decode cX11_laySure 50 = .ok (.invokestatic 188, 3) := by decide +kernel
theorem dX11_laySure_53 : decode cX11_laySure 53 = .ok (.iconst 1, 1) := by decide +kernel
theorem dX11_laySure_54 : decode cX11_laySure 54 = .ok (.if_icmp .le 180, 3) := by decide +kernel
theorem dX11_laySure_57 : decode cX11_laySure 57 = .ok (.iconst 0, 1) := by decide +kernel
theorem dX11_laySure_58 : decode cX11_laySure 58 = .ok (.istore_n 3, 1) := by decide +kernel
theorem dX11_laySure_59 : decode cX11_laySure 59 = .ok (.iconst 0, 1) := by decide +kernel
theorem dX11_laySure_60 : decode cX11_laySure 60 = .ok (.istore 4, 2) := by decide +kernel
theorem dX11_laySure_62 : decode cX11_laySure 62 = .ok (.iload 4, 2) := by decide +kernel
theorem dX11_laySure_64 : decode cX11_laySure 64 = .ok (.aload_n 0, 1) := by decide +kernel
theorem dX11_laySure_65 : decode cX11_laySure 65 = .ok (.getfield 7, 3) := by decide +kernel
theorem dX11_laySure_68 : decode cX11_laySure 68 = .ok (.bipush 64, 2) := by decide +kernel
theorem dX11_laySure_70 : decode cX11_laySure 70 = .ok (.iaload, 1) := by decide +kernel
theorem dX11_laySure_71 : decode cX11_laySure 71 = .ok (.if_icmp .ge 77, 3) := by decide +kernel
theorem dX11_laySure_74 : decode cX11_laySure 74 = .ok (.iload_n 1, 1) := by decide +kernel
theorem dX11_laySure_75 : decode cX11_laySure 75 = .ok (.iload 4, 2) := by decide +kernel
theorem dX11_laySure_77 : decode cX11_laySure 77 = .ok (.invokestatic 166, 3) := by decide +kernel
theorem dX11_laySure_80 : decode cX11_laySure 80 = .ok (.ifCond .eq 14, 3) := by decide +kernel
theorem dX11_laySure_83 : decode cX11_laySure 83 = .ok (.aload_n 0, 1) := by decide +kernel
theorem dX11_laySure_84 : decode cX11_laySure 84 = .ok (.iload_n 2, 1) := by decide +kernel
theorem dX11_laySure_85 : decode cX11_laySure 85 = .ok (.iload_n 1, 1) := by decide +kernel
theorem dX11_laySure_86 : decode cX11_laySure 86 = .ok (.iload 4, 2) := by decide +kernel
theorem dX11_laySure_88 : decode cX11_laySure 88 = .ok (.invokevirtual 191, 3) := by decide +kernel
theorem dX11_laySure_91 : decode cX11_laySure 91 = .ok (.goto 4, 3) := by decide +kernel
theorem dX11_laySure_94 : decode cX11_laySure 94 = .ok (.iconst 0, 1) := by decide +kernel
theorem dX11_laySure_95 : decode cX11_laySure 95 = .ok (.istore 5, 2) := by decide +kernel
theorem dX11_laySure_97 : decode cX11_laySure 97 = .ok (.iload 5, 2) := by decide +kernel
theorem dX11_laySure_99 : decode cX11_laySure 99 = .ok (.iload_n 1, 1) := by decide +kernel
theorem dX11_laySure_100 : decode cX11_laySure 100 = .ok (.if_icmp .eq 14, 3) := by decide +kernel
theorem dX11_laySure_103 : decode cX11_laySure 103 = .ok (.aload_n 0, 1) := by decide +kernel
theorem dX11_laySure_104 : decode cX11_laySure 104 = .ok (.getfield 36, 3) := by decide +kernel
theorem dX11_laySure_107 : decode cX11_laySure 107 = .ok (.iload 5, 2) := by decide +kernel
theorem dX11_laySure_109 : decode cX11_laySure 109 = .ok (.iaload, 1) := by decide +kernel
theorem dX11_laySure_110 : decode cX11_laySure 110 = .ok (.iconst (-1), 1) := by decide +kernel
theorem dX11_laySure_111 : decode cX11_laySure 111 = .ok (.if_icmp .ne 9, 3) := by decide +kernel
theorem dX11_laySure_114 : decode cX11_laySure 114 = .ok (.sipush 999, 3) := by decide +kernel
theorem dX11_laySure_117 : decode cX11_laySure 117 = .ok (.goto 10, 3) := by decide +kernel
theorem dX11_laySure_120 : decode cX11_laySure 120 = .ok (.aload_n 0, 1) := by decide +kernel
theorem dX11_laySure_121 : decode cX11_laySure 121 = .ok (.getfield 36, 3) := by decide +kernel
theorem dX11_laySure_124 : decode cX11_laySure 124 = .ok (.iload 5, 2) := by decide +kernel
theorem dX11_laySure_126 : decode cX11_laySure 126 = .ok (.iaload, 1) := by decide +kernel
theorem dX11_laySure_127 : decode cX11_laySure 127 = .ok (.istore 6, 2) := by decide +kernel
theorem dX11_laySure_129 : decode cX11_laySure 129 = .ok (.iload 6, 2) := by decide +kernel
theorem dX11_laySure_131 : decode cX11_laySure 131 = .ok (.iload_n 3, 1) := by decide +kernel
theorem dX11_laySure_132 : decode cX11_laySure 132 = .ok (.if_icmp .le 8, 3) := by decide +kernel
theorem dX11_laySure_135 : decode cX11_laySure 135 = .ok (.iload 6, 2) := by decide +kernel
theorem dX11_laySure_137 : decode cX11_laySure 137 = .ok (.goto 4, 3) := by decide +kernel
theorem dX11_laySure_140 : decode cX11_laySure 140 = .ok (.iload_n 3, 1) := by decide +kernel
theorem dX11_laySure_141 : decode cX11_laySure 141 = .ok (.istore_n 3, 1) := by decide +kernel
theorem dX11_laySure_142 : decode cX11_laySure 142 = .ok (.iinc 4 1, 3) := by decide +kernel
theorem dX11_laySure_145 : decode cX11_laySure 145 = .ok (.goto (-83), 3) := by decide +kernel
theorem dX11_laySure_148 : decode cX11_laySure 148 = .ok (.iload_n 3, 1) := by decide +kernel
theorem dX11_laySure_149 : decode cX11_laySure 149 = .ok (.sipush 999, 3) := by decide +kernel
theorem dX11_laySure_152 : decode cX11_laySure 152 = .ok (.if_icmp .ge 29, 3) := by decide +kernel
theorem dX11_laySure_155 : decode cX11_laySure 155 = .ok (.aload_n 0, 1) := by decide +kernel
theorem dX11_laySure_156 : decode cX11_laySure 156 = .ok (.getfield 36, 3) := by decide +kernel
theorem dX11_laySure_159 : decode cX11_laySure 159 = .ok (.iload_n 1, 1) := by decide +kernel
theorem dX11_laySure_160 : decode cX11_laySure 160 = .ok (.iaload, 1) := by decide +kernel
theorem dX11_laySure_161 : decode cX11_laySure 161 = .ok (.iconst (-1), 1) := by decide +kernel
theorem dX11_laySure_162 : decode cX11_laySure 162 = .ok (.if_icmp .eq 15, 3) := by decide +kernel
theorem dX11_laySure_165 : decode cX11_laySure 165 = .ok (.iconst 1, 1) := by decide +kernel
theorem dX11_laySure_166 : decode cX11_laySure 166 = .ok (.iload_n 3, 1) := by decide +kernel
theorem dX11_laySure_167 : decode cX11_laySure 167 = .ok (.iadd, 1) := by decide +kernel
theorem dX11_laySure_168 : decode cX11_laySure 168 = .ok (.aload_n 0, 1) := by decide +kernel
theorem dX11_laySure_169 : decode cX11_laySure 169 = .ok (.getfield 36, 3) := by decide +kernel
theorem dX11_laySure_172 : decode cX11_laySure 172 = .ok (.iload_n 1, 1) := by decide +kernel
theorem dX11_laySure_173 : decode cX11_laySure 173 = .ok (.iaload, 1) := by decide +kernel
theorem dX11_laySure_174 : decode cX11_laySure 174 = .ok (.if_icmp .ge 7, 3) := by decide +kernel
theorem dX11_laySure_177 : decode cX11_laySure 177 = .ok (.iconst 1, 1) := by decide +kernel
theorem dX11_laySure_178 : decode cX11_laySure 178 = .ok (.goto 4, 3) := by decide +kernel
theorem dX11_laySure_181 : decode cX11_laySure 181 = .ok (.iconst 0, 1) := by decide +kernel
theorem dX11_laySure_182 : decode cX11_laySure 182 = .ok (.istore 4, 2) := by decide +kernel
theorem dX11_laySure_184 : decode cX11_laySure 184 = .ok (.aload_n 0, 1) := by decide +kernel
theorem dX11_laySure_185 : decode cX11_laySure 185 = .ok (.getfield 39, 3) := by decide +kernel
theorem dX11_laySure_188 : decode cX11_laySure 188 = .ok (.iload_n 1, 1) := by decide +kernel
theorem dX11_laySure_189 : decode cX11_laySure 189 = .ok (.iload 4, 2) := by decide +kernel
theorem dX11_laySure_191 : decode cX11_laySure 191 = .ok (.ifCond .eq 7, 3) := by decide +kernel
theorem dX11_laySure_194 : decode cX11_laySure 194 = .ok (.iload_n 2, 1) := by decide +kernel
theorem dX11_laySure_195 : decode cX11_laySure 195 = .ok (.goto 9, 3) := by decide +kernel
theorem dX11_laySure_198 : decode cX11_laySure 198 = .ok (.aload_n 0, 1) := by decide +kernel
theorem dX11_laySure_199 : decode cX11_laySure 199 = .ok (.getfield 39, 3) := by decide +kernel
theorem dX11_laySure_202 : decode cX11_laySure 202 = .ok (.iload_n 1, 1) := by decide +kernel
theorem dX11_laySure_203 : decode cX11_laySure 203 = .ok (.iaload, 1) := by decide +kernel
theorem dX11_laySure_204 : decode cX11_laySure 204 = .ok (.iastore, 1) := by decide +kernel
theorem dX11_laySure_205 : decode cX11_laySure 205 = .ok (.aload_n 0, 1) := by decide +kernel
theorem dX11_laySure_206 : decode cX11_laySure 206 = .ok (.getfield 36, 3) := by decide +kernel
theorem dX11_laySure_209 : decode cX11_laySure 209 = .ok (.iload_n 1, 1) := by decide +kernel
theorem dX11_laySure_210 : decode cX11_laySure 210 = .ok (.iload 4, 2) := by decide +kernel
theorem dX11_laySure_212 : decode cX11_laySure 212 = .ok (.ifCond .eq 9, 3) := by decide +kernel
theorem dX11_laySure_215 : decode cX11_laySure 215 = .ok (.iconst 1, 1) := by decide +kernel
theorem dX11_laySure_216 : decode cX11_laySure 216 = .ok (.iload_n 3, 1) := by decide +kernel
theorem dX11_laySure_217 : decode cX11_laySure 217 = .ok (.iadd, 1) := by decide +kernel
theorem dX11_laySure_218 : decode cX11_laySure 218 = .ok (.goto 9, 3) := by decide +kernel
theorem dX11_laySure_221 : decode cX11_laySure 221 = .ok (.aload_n 0, 1) := by decide +kernel
theorem dX11_laySure_222 : decode cX11_laySure 222 = .ok (.getfield 36, 3) := by decide +kernel
theorem dX11_laySure_225 : decode cX11_laySure 225 = .ok (.iload_n 1, 1) := by decide +kernel
theorem dX11_laySure_226 : decode cX11_laySure 226 = .ok (.iaload, 1) := by decide +kernel
theorem dX11_laySure_227 : decode cX11_laySure 227 = .ok (.iastore, 1) := by decide +kernel
theorem dX11_laySure_228 : decode cX11_laySure 228 = .ok (.iinc 2 1, 3) := by decide +kernel
theorem dX11_laySure_231 : decode cX11_laySure 231 = .ok (.goto (-188), 3) := by decide +kernel
theorem dX11_laySure_234 : decode cX11_laySure 234 = .ok (.iinc 1 1, 3) := by decide +kernel
theorem dX11_laySure_237 : decode cX11_laySure 237 = .ok (.goto (-235), 3) := by decide +kernel
theorem dX11_laySure_240 : decode cX11_laySure 240 = .ok (.return_, 1) := by decide +kernel
theorem dX11_sure_0 : decode cX11_sure 0 = .ok (.iload_n 1, 1) := by decide +kernel
theorem dX11_sure_1 : decode cX11_sure 1 = .ok (.iconst 1, 1) := by decide +kernel
theorem dX11_sure_2 : decode cX11_sure 2 = .ok (.iconst 1, 1) := by decide +kernel
theorem dX11_sure_3 : decode cX11_sure 3 = .ok (.aload_n 0, 1) := by decide +kernel
theorem dX11_sure_4 : decode cX11_sure 4 = .ok (.getfield 7, 3) := by decide +kernel
theorem dX11_sure_7 : decode cX11_sure 7 = .ok (.bipush 64, 2) := by decide +kernel
theorem dX11_sure_9 : decode cX11_sure 9 = .ok (.iaload, 1) := by decide +kernel
theorem dX11_sure_10 : decode cX11_sure 10 = .ok (.ishl, 1) := by decide +kernel
theorem dX11_sure_11 : decode cX11_sure 11 = .ok (.iconst 1, 1) := by decide +kernel
theorem dX11_sure_12 : decode cX11_sure 12 = .ok (.isub, 1) := by decide +kernel
theorem dX11_sure_13 : decode cX11_sure 13 = .ok (.invokestatic 52, 3) := by decide +kernel
theorem dX11_sure_16 : decode cX11_sure 16 = .ok (.ifCond .eq 12, 3) := by decide +kernel
theorem dX11_sure_19 : decode cX11_sure 19 = .ok (.iload_n 2, 1) := by decide +kernel
theorem dX11_sure_20 : decode cX11_sure 20 = .ok (.iconst 0, 1) := by decide +kernel
theorem dX11_sure_21 : decode cX11_sure 21 = .ok (.iconst 1, 1) := by decide +kernel
theorem dX11_sure_22 : decode cX11_sure 22 = .ok (.invokestatic 52, 3) := by decide +kernel
theorem dX11_sure_25 : decode cX11_sure 25 = .ok (.ifCond .ne 8, 3) := by decide +kernel
theorem dX11_sure_28 : decode cX11_sure 28 = .ok (.aload_n 0, 1) := by decide +kernel
theorem dX11_sure_29 : decode cX11_sure 29 = .ok (.invokevirtual 60, 3) := by decide +kernel
theorem dX11_sure_32 : decode cX11_sure 32 = .ok (.ireturn, 1) := by decide +kernel
theorem dX11_sure_33 : decode cX11_sure 33 = .ok (.aload_n 0, 1) := by decide +kernel
theorem dX11_sure_34 : decode cX11_sure 34 = .ok (.invokevirtual 146, 3) := by decide +kernel
theorem dX11_sure_37 : decode cX11_sure 37 = .ok (.aload_n 0, 1) := by decide +kernel
theorem dX11_sure_38 : decode cX11_sure 38 = .ok (.invokevirtual 194, 3) := by decide +kernel
theorem dX11_sure_41 : decode cX11_sure 41 = .ok (.aload_n 0, 1) := by decide +kernel
theorem dX11_sure_42 : decode cX11_sure 42 = .ok (.getfield 36, 3) := by decide +kernel
theorem dX11_sure_45 : decode cX11_sure 45 = .ok (.iload_n 1, 1) := by decide +kernel
theorem dX11_sure_46 : decode cX11_sure 46 = .ok (.iaload, 1) := by decide +kernel
theorem dX11_sure_47 : decode cX11_sure 47 = .ok (.iconst (-1), 1) := by decide +kernel
theorem dX11_sure_48 : decode cX11_sure 48 = .ok (.if_icmp .ne 7, 3) := by decide +kernel
theorem dX11_sure_51 : decode cX11_sure 51 = .ok (.iconst (-1), 1) := by decide +kernel
theorem dX11_sure_52 : decode cX11_sure 52 = .ok (.goto 22, 3) := by decide +kernel
theorem dX11_sure_55 : decode cX11_sure 55 = .ok (.iload_n 2, 1) := by decide +kernel
theorem dX11_sure_56 : decode cX11_sure 56 = .ok (.ifCond .ne 12, 3) := by decide +kernel
theorem dX11_sure_59 : decode cX11_sure 59 = .ok (.aload_n 0, 1) := by decide +kernel
theorem dX11_sure_60 : decode cX11_sure 60 = .ok (.getfield 36, 3) := by decide +kernel
theorem dX11_sure_63 : decode cX11_sure 63 = .ok (.iload_n 1, 1) := by decide +kernel
theorem dX11_sure_64 : decode cX11_sure 64 = .ok (.iaload, 1) := by decide +kernel
theorem dX11_sure_65 : decode cX11_sure 65 = .ok (.goto 9, 3) := by decide +kernel
theorem dX11_sure_68 : decode cX11_sure 68 = .ok (.aload_n 0, 1) := by decide +kernel
theorem dX11_sure_69 : decode cX11_sure 69 = .ok (.getfield 39, 3) := by decide +kernel
theorem dX11_sure_72 : decode cX11_sure 72 = .ok (.iload_n 1, 1) := by decide +kernel
theorem dX11_sure_73 : decode cX11_sure 73 = .ok (.iaload, 1) := by decide +kernel
theorem dX11_sure_74 : decode cX11_sure 74 = .ok (.ireturn, 1) := by decide +kernel
theorem dX11_loudOnes_0 : decode cX11_loudOnes 0 = .ok (.iconst 0, 1) := by decide +kernel
theorem dX11_loudOnes_1 : decode cX11_loudOnes 1 = .ok (.istore_n 1, 1) := by decide +kernel
theorem dX11_loudOnes_2 : decode cX11_loudOnes 2 = .ok (.iconst 0, 1) := by decide +kernel
theorem dX11_loudOnes_3 : decode cX11_loudOnes 3 = .ok (.istore_n 2, 1) := by decide +kernel
theorem dX11_loudOnes_4 : decode cX11_loudOnes 4 = .ok (.iload_n 2, 1) := by decide +kernel
theorem dX11_loudOnes_5 : decode cX11_loudOnes 5 = .ok (.aload_n 0, 1) := by decide +kernel
theorem dX11_loudOnes_6 : decode cX11_loudOnes 6 = .ok (.getfield 7, 3) := by decide +kernel
theorem dX11_loudOnes_9 : decode cX11_loudOnes 9 = .ok (.bipush 64, 2) := by decide +kernel
theorem dX11_loudOnes_11 : decode cX11_loudOnes 11 = .ok (.iaload, 1) := by decide +kernel
theorem dX11_loudOnes_12 : decode cX11_loudOnes 12 = .ok (.if_icmp .ge 84, 3) := by decide +kernel
theorem dX11_loudOnes_15 : decode cX11_loudOnes 15 = .ok (.aload_n 0, 1) := by decide +kernel
theorem dX11_loudOnes_16 : decode cX11_loudOnes 16 = .ok (.getfield 7, 3) := by decide +kernel
theorem dX11_loudOnes_19 : decode cX11_loudOnes 19 = .ok (.bipush 65, 2) := by decide +kernel
theorem dX11_loudOnes_21 : decode cX11_loudOnes 21 = .ok (.iload_n 2, 1) := by decide +kernel
theorem dX11_loudOnes_22 : decode cX11_loudOnes 22 = .ok (.iadd, 1) := by decide +kernel
theorem dX11_loudOnes_23 : decode cX11_loudOnes 23 = .ok (.iaload, 1) := by decide +kernel
theorem dX11_loudOnes_24 : decode cX11_loudOnes 24 = .ok (.iconst 3, 1) := by decide +kernel
theorem dX11_loudOnes_25 : decode cX11_loudOnes 25 = .ok (.if_icmp .eq 16, 3) := by decide +kernel
theorem dX11_loudOnes_28 : decode cX11_loudOnes 28 = .ok (.aload_n 0, 1) := by decide +kernel
theorem dX11_loudOnes_29 : decode cX11_loudOnes 29 = .ok (.getfield 7, 3) := by decide +kernel
theorem dX11_loudOnes_32 : decode cX11_loudOnes 32 = .ok (.bipush 65, 2) := by decide +kernel
theorem dX11_loudOnes_34 : decode cX11_loudOnes 34 = .ok (.iload_n 2, 1) := by decide +kernel
theorem dX11_loudOnes_35 : decode cX11_loudOnes 35 = .ok (.iadd, 1) := by decide +kernel
theorem dX11_loudOnes_36 : decode cX11_loudOnes 36 = .ok (.iaload, 1) := by decide +kernel
theorem dX11_loudOnes_37 : decode cX11_loudOnes 37 = .ok (.iconst 4, 1) := by decide +kernel
theorem dX11_loudOnes_38 : decode cX11_loudOnes 38 = .ok (.if_icmp .ne 7, 3) := by decide +kernel
theorem dX11_loudOnes_41 : decode cX11_loudOnes 41 = .ok (.iconst 1, 1) := by decide +kernel
theorem dX11_loudOnes_42 : decode cX11_loudOnes 42 = .ok (.goto 4, 3) := by decide +kernel
theorem dX11_loudOnes_45 : decode cX11_loudOnes 45 = .ok (.iconst 0, 1) := by decide +kernel
theorem dX11_loudOnes_46 : decode cX11_loudOnes 46 = .ok (.istore_n 3, 1) := by decide +kernel
theorem dX11_loudOnes_47 : decode cX11_loudOnes 47 = .ok (.iload_n 1, 1) := by decide +kernel
theorem dX11_loudOnes_48 : decode cX11_loudOnes 48 = .ok (.iload_n 3, 1) := by decide +kernel
theorem dX11_loudOnes_49 : decode cX11_loudOnes 49 = .ok (.ifCond .ne 38, 3) := by decide +kernel
theorem dX11_loudOnes_52 : decode cX11_loudOnes 52 = .ok (.aload_n 0, 1) := by decide +kernel
theorem dX11_loudOnes_53 : decode cX11_loudOnes 53 = .ok (.getfield 7, 3) := by decide +kernel
theorem dX11_loudOnes_56 : decode cX11_loudOnes 56 = .ok (.bipush 93, 2) := by decide +kernel
theorem dX11_loudOnes_58 : decode cX11_loudOnes 58 = .ok (.iaload, 1) := by decide +kernel
theorem dX11_loudOnes_59 : decode cX11_loudOnes 59 = .ok (.iload_n 2, 1) := by decide +kernel
theorem dX11_loudOnes_60 : decode cX11_loudOnes 60 = .ok (.invokestatic 166, 3) := by decide +kernel
theorem dX11_loudOnes_63 : decode cX11_loudOnes 63 = .ok (.ifCond .ne 24, 3) := by decide +kernel
theorem dX11_loudOnes_66 : decode cX11_loudOnes 66 = .ok (.aload_n 0, 1) := by decide +kernel
theorem dX11_loudOnes_67 : decode cX11_loudOnes 67 = .ok (.iload_n 2, 1) := by decide +kernel
theorem dX11_loudOnes_68 : decode cX11_loudOnes 68 = .ok (.aload_n 0, 1) := by decide +kernel
theorem dX11_loudOnes_69 : decode cX11_loudOnes 69 = .ok (.getfield 7, 3) := by decide +kernel
theorem dX11_loudOnes_72 : decode cX11_loudOnes 72 = .ok (.bipush 92, 2) := by decide +kernel
theorem dX11_loudOnes_74 : decode cX11_loudOnes 74 = .ok (.iaload, 1) := by decide +kernel
theorem dX11_loudOnes_75 : decode cX11_loudOnes 75 = .ok (.invokevirtual 185, 3) := by decide +kernel
theorem dX11_loudOnes_78 : decode cX11_loudOnes 78 = .ok (.ifCond .eq 9, 3) := by decide +kernel
theorem dX11_loudOnes_81 : decode cX11_loudOnes 81 = .ok (.iconst 1, 1) := by decide +kernel
theorem dX11_loudOnes_82 : decode cX11_loudOnes 82 = .ok (.iload_n 2, 1) := by decide +kernel
theorem dX11_loudOnes_83 : decode cX11_loudOnes 83 = .ok (.ishl, 1) := by decide +kernel
theorem dX11_loudOnes_84 : decode cX11_loudOnes 84 = .ok (.goto 4, 3) := by decide +kernel
theorem dX11_loudOnes_87 : decode cX11_loudOnes 87 = .ok (.iconst 0, 1) := by decide +kernel
theorem dX11_loudOnes_88 : decode cX11_loudOnes 88 = .ok (.ior, 1) := by decide +kernel
theorem dX11_loudOnes_89 : decode cX11_loudOnes 89 = .ok (.istore_n 1, 1) := by decide +kernel
theorem dX11_loudOnes_90 : decode cX11_loudOnes 90 = .ok (.iinc 2 1, 3) := by decide +kernel
theorem dX11_loudOnes_93 : decode cX11_loudOnes 93 = .ok (.goto (-89), 3) := by decide +kernel
theorem dX11_loudOnes_96 : decode cX11_loudOnes 96 = .ok (.iload_n 1, 1) := by decide +kernel
theorem dX11_loudOnes_97 : decode cX11_loudOnes 97 = .ok (.ireturn, 1) := by decide +kernel
theorem dX11_wayBy_0 : decode cX11_wayBy 0 = .ok (.aload_n 0, 1) := by decide +kernel
theorem dX11_wayBy_1 : decode cX11_wayBy 1 = .ok (.getfield 7, 3) := by decide +kernel
theorem dX11_wayBy_4 : decode cX11_wayBy 4 = .ok (.bipush 91, 2) := by decide +kernel
theorem dX11_wayBy_6 : decode cX11_wayBy 6 = .ok (.iaload, 1) := by decide +kernel
theorem dX11_wayBy_7 : decode cX11_wayBy 7 = .ok (.istore_n 2, 1) := by decide +kernel
theorem dX11_wayBy_8 : decode cX11_wayBy 8 = .ok (.iconst 0, 1) := by decide +kernel
theorem dX11_wayBy_9 : decode cX11_wayBy 9 = .ok (.istore_n 3, 1) := by decide +kernel
theorem dX11_wayBy_10 : decode cX11_wayBy 10 = .ok (.iconst 0, 1) := by decide +kernel
theorem dX11_wayBy_11 : decode cX11_wayBy 11 = .ok (.istore 4, 2) := by decide +kernel
theorem dX11_wayBy_13 : decode cX11_wayBy 13 = .ok (.iload 4, 2) := by decide +kernel
theorem dX11_wayBy_15 : decode cX11_wayBy 15 = .ok (.iload_n 1, 1) := by decide +kernel
theorem dX11_wayBy_16 : decode cX11_wayBy 16 = .ok (.if_icmp .ge 57, 3) := by decide +kernel
theorem dX11_wayBy_19 : decode cX11_wayBy 19 = .ok (.iload_n 3, 1) := by decide +kernel
theorem dX11_wayBy_20 : decode cX11_wayBy 20 = .ok (.ifCond .lt 53, 3) := by decide +kernel
theorem dX11_wayBy_23 : decode cX11_wayBy 23 = .ok (.aload_n 0, 1) := by decide +kernel
theorem dX11_wayBy_24 : decode cX11_wayBy 24 = .ok (.getfield 7, 3) := by decide +kernel
theorem dX11_wayBy_27 : decode cX11_wayBy 27 = .ok (.bipush 71, 2) := by decide +kernel
theorem dX11_wayBy_29 : decode cX11_wayBy 29 = .ok (.aload_n 0, 1) := by decide +kernel
theorem dX11_wayBy_30 : decode cX11_wayBy 30 = .ok (.getfield 42, 3) := by decide +kernel
theorem dX11_wayBy_33 : decode cX11_wayBy 33 = .ok (.iload 4, 2) := by decide +kernel
theorem dX11_wayBy_35 : decode cX11_wayBy 35 = .ok (.iaload, 1) := by decide +kernel
theorem dX11_wayBy_36 : decode cX11_wayBy 36 = .ok (.iadd, 1) := by decide +kernel
theorem dX11_wayBy_37 : decode cX11_wayBy 37 = .ok (.iaload, 1) := by decide +kernel
theorem dX11_wayBy_38 : decode cX11_wayBy 38 = .ok (.istore 5, 2) := by decide +kernel
theorem dX11_wayBy_40 : decode cX11_wayBy 40 = .ok (.aload_n 0, 1) := by decide +kernel
theorem dX11_wayBy_41 : decode cX11_wayBy 41 = .ok (.iload_n 2, 1) := by decide +kernel
theorem dX11_wayBy_42 : decode cX11_wayBy 42 = .ok (.iload 5, 2) := by decide +kernel
theorem dX11_wayBy_44 : decode cX11_wayBy 44 = .ok (.invokevirtual 153, 3) := by decide +kernel
theorem dX11_wayBy_47 : decode cX11_wayBy 47 = .ok (.ifCond .ge 7, 3) := by decide +kernel
theorem dX11_wayBy_50 : decode cX11_wayBy 50 = .ok (.iconst (-1), 1) := by decide +kernel
theorem dX11_wayBy_51 : decode cX11_wayBy 51 = .ok (.goto 12, 3) := by decide +kernel
theorem dX11_wayBy_54 : decode cX11_wayBy 54 = .ok (.iload_n 3, 1) := by decide +kernel
theorem dX11_wayBy_55 : decode cX11_wayBy 55 = .ok (.aload_n 0, 1) := by decide +kernel
theorem dX11_wayBy_56 : decode cX11_wayBy 56 = .ok (.iload_n 2, 1) := by decide +kernel
theorem dX11_wayBy_57 : decode cX11_wayBy 57 = .ok (.iload 5, 2) := by decide +kernel
theorem dX11_wayBy_59 : decode cX11_wayBy 59 = .ok (.invokevirtual 153, 3) := by decide +kernel
theorem dX11_wayBy_62 : decode cX11_wayBy 62 = .ok (.iadd, 1) := by decide +kernel
theorem dX11_wayBy_63 : decode cX11_wayBy 63 = .ok (.istore_n 3, 1) := by decide +kernel
theorem dX11_wayBy_64 : decode cX11_wayBy 64 = .ok (.iload 5, 2) := by decide +kernel
theorem dX11_wayBy_66 : decode cX11_wayBy 66 = .ok (.istore_n 2, 1) := by decide +kernel
theorem dX11_wayBy_67 : decode cX11_wayBy 67 = .ok (.iinc 4 1, 3) := by decide +kernel
theorem dX11_wayBy_70 : decode cX11_wayBy 70 = .ok (.goto (-57), 3) := by decide +kernel
theorem dX11_wayBy_73 : decode cX11_wayBy 73 = .ok (.iload_n 3, 1) := by decide +kernel
theorem dX11_wayBy_74 : decode cX11_wayBy 74 = .ok (.ireturn, 1) := by decide +kernel
theorem dX11_layWay_0 : decode cX11_layWay 0 = .ok (.aload_n 0, 1) := by decide +kernel
theorem dX11_layWay_1 : decode cX11_layWay 1 = .ok (.invokevirtual 197, 3) := by decide +kernel
theorem dX11_layWay_4 : decode cX11_layWay 4 = .ok (.istore_n 1, 1) := by decide +kernel
theorem dX11_layWay_5 : decode cX11_layWay 5 = .ok (.iload_n 1, 1) := by decide +kernel
theorem dX11_layWay_6 : decode cX11_layWay 6 = .ok (.invokestatic 188, 3) := by decide +kernel
theorem dX11_layWay_9 : decode cX11_layWay 9 = .ok (.istore_n 2, 1) := by decide +kernel
theorem dX11_layWay_10 : decode cX11_layWay 10 = .ok (.iconst 1, 1) := by decide +kernel
theorem dX11_layWay_11 : decode cX11_layWay 11 = .ok (.istore_n 3, 1) := by decide +kernel
theorem dX11_layWay_12 : decode cX11_layWay 12 = .ok (.iconst 0, 1) := by decide +kernel
theorem dX11_layWay_13 : decode cX11_layWay 13 = .ok (.istore 4, 2) := by decide +kernel
theorem dX11_layWay_15 : decode cX11_layWay 15 = .ok (.iload 4, 2) := by decide +kernel
theorem dX11_layWay_17 : decode cX11_layWay 17 = .ok (.iload_n 2, 1) := by decide +kernel
theorem dX11_layWay_18 : decode cX11_layWay 18 = .ok (.if_icmp .ge 14, 3) := by decide +kernel
theorem dX11_layWay_21 : decode cX11_layWay 21 = .ok (.iload_n 3, 1) := by decide +kernel
theorem dX11_layWay_22 : decode cX11_layWay 22 = .ok (.bipush 6, 2) := by decide +kernel
theorem dX11_layWay_24 : decode cX11_layWay 24 = .ok (.imul, 1) := by decide +kernel
theorem dX11_layWay_25 : decode cX11_layWay 25 = .ok (.istore_n 3, 1) := by decide +kernel
theorem dX11_layWay_26 : decode cX11_layWay 26 = .ok (.iinc 4 1, 3) := by decide +kernel
theorem dX11_layWay_29 : decode cX11_layWay 29 = .ok (.goto (-14), 3) := by decide +kernel
theorem dX11_layWay_32 : decode cX11_layWay 32 = .ok (.iconst (-1), 1) := by decide +kernel
theorem dX11_layWay_33 : decode cX11_layWay 33 = .ok (.istore 4, 2) := by decide +kernel
theorem dX11_layWay_35 : decode cX11_layWay 35 = .ok (.aload_n 0, 1) := by decide +kernel
theorem dX11_layWay_36 : decode cX11_layWay 36 = .ok (.iload_n 2, 1) := by decide +kernel
theorem dX11_layWay_37 : decode cX11_layWay 37 = .ok (.putfield 200, 3) := by decide +kernel
theorem dX11_layWay_40 : decode cX11_layWay 40 = .ok (.iconst 0, 1) := by decide +kernel
theorem dX11_layWay_41 : decode cX11_layWay 41 = .ok (.istore 5, 2) := by decide +kernel
theorem dX11_layWay_43 : decode cX11_layWay 43 = .ok (.iload 5, 2) := by decide +kernel
theorem dX11_layWay_45 : decode cX11_layWay 45 = .ok (.iload_n 3, 1) := by decide +kernel
theorem dX11_layWay_46 : decode cX11_layWay 46 = .ok (.if_icmp .ge 120, 3) := by decide +kernel
theorem dX11_layWay_49 : decode cX11_layWay 49 = .ok (.iload 5, 2) := by decide +kernel
theorem dX11_layWay_51 : decode cX11_layWay 51 = .ok (.istore 6, 2) := by decide +kernel
theorem dX11_layWay_53 : decode cX11_layWay 53 = .ok (.iconst 0, 1) := by decide +kernel
theorem dX11_layWay_54 : decode cX11_layWay 54 = .ok (.istore 7, 2) := by decide +kernel
theorem dX11_layWay_56 : decode cX11_layWay 56 = .ok (.iload_n 2, 1) := by decide +kernel
theorem dX11_layWay_57 : decode cX11_layWay 57 = .ok (.iconst 1, 1) := by decide +kernel
theorem dX11_layWay_58 : decode cX11_layWay 58 = .ok (.isub, 1) := by decide +kernel
theorem dX11_layWay_59 : decode cX11_layWay 59 = .ok (.istore 8, 2) := by decide +kernel
theorem dX11_layWay_61 : decode cX11_layWay 61 = .ok (.iload 8, 2) := by decide +kernel
theorem dX11_layWay_63 : decode cX11_layWay 63 = .ok (.ifCond .lt 42, 3) := by decide +kernel
theorem dX11_layWay_66 : decode cX11_layWay 66 = .ok (.aload_n 0, 1) := by decide +kernel
theorem dX11_layWay_67 : decode cX11_layWay 67 = .ok (.getfield 42, 3) := by decide +kernel
theorem dX11_layWay_70 : decode cX11_layWay 70 = .ok (.iload 8, 2) := by decide +kernel
theorem dX11_layWay_72 : decode cX11_layWay 72 = .ok (.iload 6, 2) := by decide +kernel
theorem dX11_layWay_74 : decode cX11_layWay 74 = .ok (.bipush 6, 2) := by decide +kernel
theorem dX11_layWay_76 : decode cX11_layWay 76 = .ok (.irem, 1) := by decide +kernel
theorem dX11_layWay_77 : decode cX11_layWay 77 = .ok (.iastore, 1) := by decide +kernel
theorem dX11_layWay_78 : decode cX11_layWay 78 = .ok (.iload 6, 2) := by decide +kernel
theorem dX11_layWay_80 : decode cX11_layWay 80 = .ok (.bipush 6, 2) := by decide +kernel
theorem dX11_layWay_82 : decode cX11_layWay 82 = .ok (.idiv, 1) := by decide +kernel
theorem dX11_layWay_83 : decode cX11_layWay 83 = .ok (.istore 6, 2) := by decide +kernel
theorem dX11_layWay_85 : decode cX11_layWay 85 = .ok (.iload 7, 2) := by decide +kernel
theorem dX11_layWay_87 : decode cX11_layWay 87 = .ok (.iconst 1, 1) := by decide +kernel
theorem dX11_layWay_88 : decode cX11_layWay 88 = .ok (.aload_n 0, 1) := by decide +kernel
theorem dX11_layWay_89 : decode cX11_layWay 89 = .ok (.getfield 42, 3) := by decide +kernel
theorem dX11_layWay_92 : decode cX11_layWay 92 = .ok (.iload 8, 2) := by decide +kernel
theorem dX11_layWay_94 : decode cX11_layWay 94 = .ok (.iaload, 1) := by decide +kernel
theorem dX11_layWay_95 : decode cX11_layWay 95 = .ok (.ishl, 1) := by decide +kernel
theorem dX11_layWay_96 : decode cX11_layWay 96 = .ok (.ior, 1) := by decide +kernel
theorem dX11_layWay_97 : decode cX11_layWay 97 = .ok (.istore 7, 2) := by decide +kernel
theorem dX11_layWay_99 : decode cX11_layWay 99 = .ok (.iinc 8 (-1), 3) := by decide +kernel
theorem dX11_layWay_102 : decode cX11_layWay 102 = .ok (.goto (-41), 3) := by decide +kernel
theorem dX11_layWay_105 : decode cX11_layWay 105 = .ok (.iload 7, 2) := by decide +kernel
theorem dX11_layWay_107 : decode cX11_layWay 107 = .ok (.iload_n 1, 1) := by decide +kernel
theorem dX11_layWay_108 : decode cX11_layWay 108 = .ok (.if_icmp .ne 11, 3) := by decide +kernel
theorem dX11_layWay_111 : decode cX11_layWay 111 = .ok (.aload_n 0, 1) := by decide +kernel
theorem dX11_layWay_112 : decode cX11_layWay 112 = .ok (.iload_n 2, 1) := by decide +kernel
theorem dX11_layWay_113 : decode cX11_layWay 113 = .ok (.invokevirtual 203, 3) := by decide +kernel
theorem dX11_layWay_116 : decode cX11_layWay 116 = .ok (.goto 4, 3) := by decide +kernel
theorem dX11_layWay_119 : decode cX11_layWay 119 = .ok (.iconst (-1), 1) := by decide +kernel
theorem dX11_layWay_120 : decode cX11_layWay 120 = .ok (.istore 8, 2) := by decide +kernel
theorem dX11_layWay_122 : decode cX11_layWay 122 = .ok (.iload 8, 2) := by decide +kernel
theorem dX11_layWay_124 : decode cX11_layWay 124 = .ok (.iconst (-1), 1) := by decide +kernel
theorem dX11_layWay_125 : decode cX11_layWay 125 = .ok (.if_icmp .eq 35, 3) := by decide +kernel
theorem dX11_layWay_128 : decode cX11_layWay 128 = .ok (.iload 4, 2) := by decide +kernel
theorem dX11_layWay_130 : decode cX11_layWay 130 = .ok (.iconst (-1), 1) := by decide +kernel
theorem dX11_layWay_131 : decode cX11_layWay 131 = .ok (.if_icmp .eq 10, 3) := by decide +kernel
theorem dX11_layWay_134 : decode cX11_layWay 134 = .ok (.iload 8, 2) := by decide +kernel
theorem dX11_layWay_136 : decode cX11_layWay 136 = .ok (.iload 4, 2) := by decide +kernel
theorem dX11_layWay_138 : decode cX11_layWay 138 = .ok (.if_icmp .ge 22, 3) := by decide +kernel
theorem dX11_layWay_141 : decode cX11_layWay 141 = .ok (.iload 8, 2) := by decide +kernel
theorem dX11_layWay_143 : decode cX11_layWay 143 = .ok (.istore 4, 2) := by decide +kernel
theorem dX11_layWay_145 : decode cX11_layWay 145 = .ok (.aload_n 0, 1) := by decide +kernel
theorem dX11_layWay_146 : decode cX11_layWay 146 = .ok (.getfield 42, 3) := by decide +kernel
theorem dX11_layWay_149 : decode cX11_layWay 149 = .ok (.iconst 0, 1) := by decide +kernel
theorem dX11_layWay_150 : decode cX11_layWay 150 = .ok (.aload_n 0, 1) := by decide +kernel
theorem dX11_layWay_151 : decode cX11_layWay 151 = .ok (.getfield 45, 3) := by decide +kernel
theorem dX11_layWay_154 : decode cX11_layWay 154 = .ok (.iconst 0, 1) := by decide +kernel
theorem dX11_layWay_155 : decode cX11_layWay 155 = .ok (.bipush 6, 2) := by decide +kernel
theorem dX11_layWay_157 : decode cX11_layWay 157 = .ok (.invokestatic 135, 3) := by decide +kernel
theorem dX11_layWay_160 : decode cX11_layWay 160 = .ok (.iinc 5 1, 3) := by decide +kernel
theorem dX11_layWay_163 : decode cX11_layWay 163 = .ok (.goto (-120), 3) := by decide +kernel
theorem dX11_layWay_166 : decode cX11_layWay 166 = .ok (.iload 4, 2) := by decide +kernel
theorem dX11_layWay_168 : decode cX11_layWay 168 = .ok (.ireturn, 1) := by decide +kernel
theorem dX11_way_0 : decode cX11_way 0 = .ok (.iload_n 1, 1) := by decide +kernel
theorem dX11_way_1 : decode cX11_way 1 = .ok (.iconst (-1), 1) := by decide +kernel
theorem dX11_way_2 : decode cX11_way 2 = .ok (.if_icmp .ge 16, 3) := by decide +kernel
theorem dX11_way_5 : decode cX11_way 5 = .ok (.aload_n 0, 1) := by decide +kernel
theorem dX11_way_6 : decode cX11_way 6 = .ok (.getfield 23, 3) := by decide +kernel
theorem dX11_way_9 : decode cX11_way 9 = .ok (.iconst 0, 1) := by decide +kernel
theorem dX11_way_10 : decode cX11_way 10 = .ok (.dup2, 1) := by decide +kernel
theorem dX11_way_11 : decode cX11_way 11 = .ok (.iaload, 1) := by decide +kernel
theorem dX11_way_12 : decode cX11_way 12 = .ok (.iconst 1, 1) := by decide +kernel
theorem dX11_way_13 : decode cX11_way 13 = .ok (.iadd, 1) := by decide +kernel
theorem dX11_way_14 : decode cX11_way 14 = .ok (.iastore, 1) := by decide +kernel
theorem dX11_way_15 : decode cX11_way 15 = .ok (.bipush (-10), 2) := by decide +kernel
theorem dX11_way_17 : decode cX11_way 17 = .ok (.ireturn, 1) := by decide +kernel
theorem dX11_way_18 : decode cX11_way 18 = .ok (.aload_n 0, 1) := by decide +kernel
theorem dX11_way_19 : decode cX11_way 19 = .ok (.invokevirtual 146, 3) := by decide +kernel
theorem dX11_way_22 : decode cX11_way 22 = .ok (.aload_n 0, 1) := by decide +kernel
theorem dX11_way_23 : decode cX11_way 23 = .ok (.invokevirtual 206, 3) := by decide +kernel
theorem dX11_way_26 : decode cX11_way 26 = .ok (.istore_n 2, 1) := by decide +kernel
theorem dX11_way_27 : decode cX11_way 27 = .ok (.iload_n 2, 1) := by decide +kernel
theorem dX11_way_28 : decode cX11_way 28 = .ok (.iconst (-1), 1) := by decide +kernel
theorem dX11_way_29 : decode cX11_way 29 = .ok (.if_icmp .eq 8, 3) := by decide +kernel
theorem dX11_way_32 : decode cX11_way 32 = .ok (.iload_n 1, 1) := by decide +kernel
theorem dX11_way_33 : decode cX11_way 33 = .ok (.iconst (-1), 1) := by decide +kernel
theorem dX11_way_34 : decode cX11_way 34 = .ok (.if_icmp .ne 5, 3) := by decide +kernel
theorem dX11_way_37 : decode cX11_way 37 = .ok (.iload_n 2, 1) := by decide +kernel
theorem dX11_way_38 : decode cX11_way 38 = .ok (.ireturn, 1) := by decide +kernel
theorem dX11_way_39 : decode cX11_way 39 = .ok (.iload_n 1, 1) := by decide +kernel
theorem dX11_way_40 : decode cX11_way 40 = .ok (.aload_n 0, 1) := by decide +kernel
theorem dX11_way_41 : decode cX11_way 41 = .ok (.getfield 200, 3) := by decide +kernel
theorem dX11_way_44 : decode cX11_way 44 = .ok (.if_icmp .ge 12, 3) := by decide +kernel
theorem dX11_way_47 : decode cX11_way 47 = .ok (.aload_n 0, 1) := by decide +kernel
theorem dX11_way_48 : decode cX11_way 48 = .ok (.getfield 45, 3) := by decide +kernel
theorem dX11_way_51 : decode cX11_way 51 = .ok (.iload_n 1, 1) := by decide +kernel
theorem dX11_way_52 : decode cX11_way 52 = .ok (.iaload, 1) := by decide +kernel
theorem dX11_way_53 : decode cX11_way 53 = .ok (.goto 5, 3) := by decide +kernel
theorem dX11_way_56 : decode cX11_way 56 = .ok (.bipush (-5), 2) := by decide +kernel
theorem dX11_way_58 : decode cX11_way 58 = .ok (.ireturn, 1) := by decide +kernel
theorem dX11_two_0 : decode cX11_two 0 = .ok (.iload_n 1, 1) := by decide +kernel
theorem dX11_two_1 : decode cX11_two 1 = .ok (.invokestatic 56, 3) := by decide +kernel
theorem dX11_two_4 : decode cX11_two 4 = .ok (.ifCond .eq 10, 3) := by decide +kernel
theorem dX11_two_7 : decode cX11_two 7 = .ok (.iload_n 2, 1) := by decide +kernel
theorem dX11_two_8 : decode cX11_two 8 = .ok (.invokestatic 56, 3) := by decide +kernel
theorem dX11_two_11 : decode cX11_two 11 = .ok (.ifCond .ne 8, 3) := by decide +kernel
theorem dX11_two_14 : decode cX11_two 14 = .ok (.aload_n 0, 1) := by decide +kernel
theorem dX11_two_15 : decode cX11_two 15 = .ok (.invokevirtual 60, 3) := by decide +kernel
theorem dX11_two_18 : decode cX11_two 18 = .ok (.ireturn, 1) := by decide +kernel
theorem dX11_two_19 : decode cX11_two 19 = .ok (.aload_n 0, 1) := by decide +kernel
theorem dX11_two_20 : decode cX11_two 20 = .ok (.invokevirtual 146, 3) := by decide +kernel
theorem dX11_two_23 : decode cX11_two 23 = .ok (.iconst 0, 1) := by decide +kernel
theorem dX11_two_24 : decode cX11_two 24 = .ok (.istore_n 3, 1) := by decide +kernel
theorem dX11_two_25 : decode cX11_two 25 = .ok (.iconst 0, 1) := by decide +kernel
theorem dX11_two_26 : decode cX11_two 26 = .ok (.istore 4, 2) := by decide +kernel
theorem dX11_two_28 : decode cX11_two 28 = .ok (.iload 4, 2) := by decide +kernel
theorem dX11_two_30 : decode cX11_two 30 = .ok (.aload_n 0, 1) := by decide +kernel
theorem dX11_two_31 : decode cX11_two 31 = .ok (.getfield 7, 3) := by decide +kernel
theorem dX11_two_34 : decode cX11_two 34 = .ok (.bipush 64, 2) := by decide +kernel
theorem dX11_two_36 : decode cX11_two 36 = .ok (.iaload, 1) := by decide +kernel
theorem dX11_two_37 : decode cX11_two 37 = .ok (.if_icmp .ge 67, 3) := by decide +kernel
theorem dX11_two_40 : decode cX11_two 40 = .ok (.iconst 0, 1) := by decide +kernel
theorem dX11_two_41 : decode cX11_two 41 = .ok (.istore 5, 2) := by decide +kernel
theorem dX11_two_43 : decode cX11_two 43 = .ok (.iload 5, 2) := by decide +kernel
theorem dX11_two_45 : decode cX11_two 45 = .ok (.iload 4, 2) := by decide +kernel
theorem dX11_two_47 : decode cX11_two 47 = .ok (.if_icmp .ge 51, 3) := by decide +kernel
theorem dX11_two_50 : decode cX11_two 50 = .ok (.iload_n 3, 1) := by decide +kernel
theorem dX11_two_51 : decode cX11_two 51 = .ok (.aload_n 0, 1) := by decide +kernel
theorem dX11_two_52 : decode cX11_two 52 = .ok (.iload_n 1, 1) := by decide +kernel
theorem dX11_two_53 : decode cX11_two 53 = .ok (.iload 4, 2) := by decide +kernel
theorem dX11_two_55 : decode cX11_two 55 = .ok (.invokevirtual 182, 3) := by decide +kernel
theorem dX11_two_58 : decode cX11_two 58 = .ok (.aload_n 0, 1) := by decide +kernel
theorem dX11_two_59 : decode cX11_two 59 = .ok (.iload_n 1, 1) := by decide +kernel
theorem dX11_two_60 : decode cX11_two 60 = .ok (.iload 5, 2) := by decide +kernel
theorem dX11_two_62 : decode cX11_two 62 = .ok (.invokevirtual 182, 3) := by decide +kernel
theorem dX11_two_65 : decode cX11_two 65 = .ok (.if_icmp .ne 20, 3) := by decide +kernel
theorem dX11_two_68 : decode cX11_two 68 = .ok (.aload_n 0, 1) := by decide +kernel
theorem dX11_two_69 : decode cX11_two 69 = .ok (.iload_n 2, 1) := by decide +kernel
theorem dX11_two_70 : decode cX11_two 70 = .ok (.iload 4, 2) := by decide +kernel
theorem dX11_two_72 : decode cX11_two 72 = .ok (.invokevirtual 182, 3) := by decide +kernel
theorem dX11_two_75 : decode cX11_two 75 = .ok (.aload_n 0, 1) := by decide +kernel
theorem dX11_two_76 : decode cX11_two 76 = .ok (.iload_n 2, 1) := by decide +kernel
theorem dX11_two_77 : decode cX11_two 77 = .ok (.iload 5, 2) := by decide +kernel
theorem dX11_two_79 : decode cX11_two 79 = .ok (.invokevirtual 182, 3) := by decide +kernel
theorem dX11_two_82 : decode cX11_two 82 = .ok (.if_icmp .eq 7, 3) := by decide +kernel
theorem dX11_two_85 : decode cX11_two 85 = .ok (.iconst 1, 1) := by decide +kernel
theorem dX11_two_86 : decode cX11_two 86 = .ok (.goto 4, 3) := by decide +kernel
theorem dX11_two_89 : decode cX11_two 89 = .ok (.iconst 0, 1) := by decide +kernel
theorem dX11_two_90 : decode cX11_two 90 = .ok (.iadd, 1) := by decide +kernel
theorem dX11_two_91 : decode cX11_two 91 = .ok (.istore_n 3, 1) := by decide +kernel
theorem dX11_two_92 : decode cX11_two 92 = .ok (.iinc 5 1, 3) := by decide +kernel
theorem dX11_two_95 : decode cX11_two 95 = .ok (.goto (-52), 3) := by decide +kernel
theorem dX11_two_98 : decode cX11_two 98 = .ok (.iinc 4 1, 3) := by decide +kernel
theorem dX11_two_101 : decode cX11_two 101 = .ok (.goto (-73), 3) := by decide +kernel
theorem dX11_two_104 : decode cX11_two 104 = .ok (.iload_n 3, 1) := by decide +kernel
theorem dX11_two_105 : decode cX11_two 105 = .ok (.ireturn, 1) := by decide +kernel
theorem dX11_beside_0 : decode cX11_beside 0 = .ok (.aload_n 0, 1) := by decide +kernel
theorem dX11_beside_1 : decode cX11_beside 1 = .ok (.invokevirtual 146, 3) := by decide +kernel
theorem dX11_beside_4 : decode cX11_beside 4 = .ok (.iconst 0, 1) := by decide +kernel
theorem dX11_beside_5 : decode cX11_beside 5 = .ok (.istore_n 1, 1) := by decide +kernel
theorem dX11_beside_6 : decode cX11_beside 6 = .ok (.iconst 0, 1) := by decide +kernel
theorem dX11_beside_7 : decode cX11_beside 7 = .ok (.istore_n 2, 1) := by decide +kernel
theorem dX11_beside_8 : decode cX11_beside 8 = .ok (.iconst 0, 1) := by decide +kernel
theorem dX11_beside_9 : decode cX11_beside 9 = .ok (.istore_n 3, 1) := by decide +kernel
theorem dX11_beside_10 : decode cX11_beside 10 = .ok (.iload_n 3, 1) := by decide +kernel
theorem dX11_beside_11 : decode cX11_beside 11 = .ok (.bipush 8, 2) := by decide +kernel
theorem dX11_beside_13 : decode cX11_beside 13 = .ok (.if_icmp .ge 78, 3) := by decide +kernel
theorem dX11_beside_16 : decode cX11_beside 16 = .ok (.iconst 0, 1) := by decide +kernel
theorem dX11_beside_17 : decode cX11_beside 17 = .ok (.istore 4, 2) := by decide +kernel
theorem dX11_beside_19 : decode cX11_beside 19 = .ok (.iconst 0, 1) := by decide +kernel
theorem dX11_beside_20 : decode cX11_beside 20 = .ok (.istore 5, 2) := by decide +kernel
theorem dX11_beside_22 : decode cX11_beside 22 = .ok (.iload 5, 2) := by decide +kernel
theorem dX11_beside_24 : decode cX11_beside 24 = .ok (.aload_n 0, 1) := by decide +kernel
theorem dX11_beside_25 : decode cX11_beside 25 = .ok (.getfield 7, 3) := by decide +kernel
theorem dX11_beside_28 : decode cX11_beside 28 = .ok (.bipush 64, 2) := by decide +kernel
theorem dX11_beside_30 : decode cX11_beside 30 = .ok (.iaload, 1) := by decide +kernel
theorem dX11_beside_31 : decode cX11_beside 31 = .ok (.if_icmp .ge 29, 3) := by decide +kernel
theorem dX11_beside_34 : decode cX11_beside 34 = .ok (.iload 4, 2) := by decide +kernel
theorem dX11_beside_36 : decode cX11_beside 36 = .ok (.aload_n 0, 1) := by decide +kernel
theorem dX11_beside_37 : decode cX11_beside 37 = .ok (.iload_n 3, 1) := by decide +kernel
theorem dX11_beside_38 : decode cX11_beside 38 = .ok (.iload 5, 2) := by decide +kernel
theorem dX11_beside_40 : decode cX11_beside 40 = .ok (.invokevirtual 179, 3) := by decide +kernel
theorem dX11_beside_43 : decode cX11_beside 43 = .ok (.ifCond .eq 7, 3) := by decide +kernel
theorem dX11_beside_46 : decode cX11_beside 46 = .ok (.iconst 1, 1) := by decide +kernel
theorem dX11_beside_47 : decode cX11_beside 47 = .ok (.goto 4, 3) := by decide +kernel
theorem dX11_beside_50 : decode cX11_beside 50 = .ok (.iconst 0, 1) := by decide +kernel
theorem dX11_beside_51 : decode cX11_beside 51 = .ok (.iadd, 1) := by decide +kernel
theorem dX11_beside_52 : decode cX11_beside 52 = .ok (.istore 4, 2) := by decide +kernel
theorem dX11_beside_54 : decode cX11_beside 54 = .ok (.iinc 5 1, 3) := by decide +kernel
theorem dX11_beside_57 : decode cX11_beside 57 = .ok (.goto (-35), 3) := by decide +kernel
theorem dX11_beside_60 : decode cX11_beside 60 = .ok (.iload 4, 2) := by decide +kernel
theorem dX11_beside_62 : decode cX11_beside 62 = .ok (.iload_n 2, 1) := by decide +kernel
theorem dX11_beside_63 : decode cX11_beside 63 = .ok (.if_icmp .le 7, 3) := by decide +kernel
theorem dX11_beside_66 : decode cX11_beside 66 = .ok (.iload_n 3, 1) := by decide +kernel
theorem dX11_beside_67 : decode cX11_beside 67 = .ok (.goto 4, 3) := by decide +kernel
theorem dX11_beside_70 : decode cX11_beside 70 = .ok (.iload_n 1, 1) := by decide +kernel
theorem dX11_beside_71 : decode cX11_beside 71 = .ok (.istore_n 1, 1) := by decide +kernel
theorem dX11_beside_72 : decode cX11_beside 72 = .ok (.iload 4, 2) := by decide +kernel
theorem dX11_beside_74 : decode cX11_beside 74 = .ok (.iload_n 2, 1) := by decide +kernel
theorem dX11_beside_75 : decode cX11_beside 75 = .ok (.if_icmp .le 8, 3) := by decide +kernel
theorem dX11_beside_78 : decode cX11_beside 78 = .ok (.iload 4, 2) := by decide +kernel
theorem dX11_beside_80 : decode cX11_beside 80 = .ok (.goto 4, 3) := by decide +kernel
theorem dX11_beside_83 : decode cX11_beside 83 = .ok (.iload_n 2, 1) := by decide +kernel
theorem dX11_beside_84 : decode cX11_beside 84 = .ok (.istore_n 2, 1) := by decide +kernel
theorem dX11_beside_85 : decode cX11_beside 85 = .ok (.iinc 3 1, 3) := by decide +kernel
theorem dX11_beside_88 : decode cX11_beside 88 = .ok (.goto (-78), 3) := by decide +kernel
theorem dX11_beside_91 : decode cX11_beside 91 = .ok (.iload_n 1, 1) := by decide +kernel
theorem dX11_beside_92 : decode cX11_beside 92 = .ok (.ireturn, 1) := by decide +kernel
theorem dX11_note_0 : decode cX11_note 0 = .ok (.iload_n 1, 1) := by decide +kernel
theorem dX11_note_1 : decode cX11_note 1 = .ok (.invokestatic 56, 3) := by decide +kernel
theorem dX11_note_4 : decode cX11_note 4 = .ok (.ifCond .eq 13, 3) := by decide +kernel
theorem dX11_note_7 : decode cX11_note 7 = .ok (.iload_n 2, 1) := by decide +kernel
theorem dX11_note_8 : decode cX11_note 8 = .ok (.iconst (-1), 1) := by decide +kernel
theorem dX11_note_9 : decode cX11_note 9 = .ok (.bipush 7, 2) := by decide +kernel
theorem dX11_note_11 : decode cX11_note 11 = .ok (.invokestatic 52, 3) := by decide +kernel
theorem dX11_note_14 : decode cX11_note 14 = .ok (.ifCond .ne 8, 3) := by decide +kernel
theorem dX11_note_17 : decode cX11_note 17 = .ok (.aload_n 0, 1) := by decide +kernel
theorem dX11_note_18 : decode cX11_note 18 = .ok (.invokevirtual 60, 3) := by decide +kernel
theorem dX11_note_21 : decode cX11_note 21 = .ok (.ireturn, 1) := by decide +kernel
theorem dX11_note_22 : decode cX11_note 22 = .ok (.aload_n 0, 1) := by decide +kernel
theorem dX11_note_23 : decode cX11_note 23 = .ok (.getfield 7, 3) := by decide +kernel
theorem dX11_note_26 : decode cX11_note 26 = .ok (.bipush 77, 2) := by decide +kernel
theorem dX11_note_28 : decode cX11_note 28 = .ok (.iaload, 1) := by decide +kernel
theorem dX11_note_29 : decode cX11_note 29 = .ok (.bipush 6, 2) := by decide +kernel
theorem dX11_note_31 : decode cX11_note 31 = .ok (.if_icmp .ne 8, 3) := by decide +kernel
theorem dX11_note_34 : decode cX11_note 34 = .ok (.aload_n 0, 1) := by decide +kernel
theorem dX11_note_35 : decode cX11_note 35 = .ok (.invokevirtual 64, 3) := by decide +kernel
theorem dX11_note_38 : decode cX11_note 38 = .ok (.ireturn, 1) := by decide +kernel
theorem dX11_note_39 : decode cX11_note 39 = .ok (.aload_n 0, 1) := by decide +kernel
theorem dX11_note_40 : decode cX11_note 40 = .ok (.getfield 7, 3) := by decide +kernel
theorem dX11_note_43 : decode cX11_note 43 = .ok (.bipush 78, 2) := by decide +kernel
theorem dX11_note_45 : decode cX11_note 45 = .ok (.iconst 2, 1) := by decide +kernel
theorem dX11_note_46 : decode cX11_note 46 = .ok (.aload_n 0, 1) := by decide +kernel
theorem dX11_note_47 : decode cX11_note 47 = .ok (.getfield 7, 3) := by decide +kernel
theorem dX11_note_50 : decode cX11_note 50 = .ok (.bipush 77, 2) := by decide +kernel
theorem dX11_note_52 : decode cX11_note 52 = .ok (.iaload, 1) := by decide +kernel
theorem dX11_note_53 : decode cX11_note 53 = .ok (.imul, 1) := by decide +kernel
theorem dX11_note_54 : decode cX11_note 54 = .ok (.iadd, 1) := by decide +kernel
theorem dX11_note_55 : decode cX11_note 55 = .ok (.iload_n 1, 1) := by decide +kernel
theorem dX11_note_56 : decode cX11_note 56 = .ok (.iastore, 1) := by decide +kernel
theorem dX11_note_57 : decode cX11_note 57 = .ok (.aload_n 0, 1) := by decide +kernel
theorem dX11_note_58 : decode cX11_note 58 = .ok (.getfield 7, 3) := by decide +kernel
theorem dX11_note_61 : decode cX11_note 61 = .ok (.bipush 78, 2) := by decide +kernel
theorem dX11_note_63 : decode cX11_note 63 = .ok (.iconst 2, 1) := by decide +kernel
theorem dX11_note_64 : decode cX11_note 64 = .ok (.aload_n 0, 1) := by decide +kernel
theorem dX11_note_65 : decode cX11_note 65 = .ok (.getfield 7, 3) := by decide +kernel
theorem dX11_note_68 : decode cX11_note 68 = .ok (.bipush 77, 2) := by decide +kernel
theorem dX11_note_70 : decode cX11_note 70 = .ok (.iaload, 1) := by decide +kernel
theorem dX11_note_71 : decode cX11_note 71 = .ok (.imul, 1) := by decide +kernel
theorem dX11_note_72 : decode cX11_note 72 = .ok (.iadd, 1) := by decide +kernel
theorem dX11_note_73 : decode cX11_note 73 = .ok (.iconst 1, 1) := by decide +kernel
theorem dX11_note_74 : decode cX11_note 74 = .ok (.iadd, 1) := by decide +kernel
theorem dX11_note_75 : decode cX11_note 75 = .ok (.iload_n 2, 1) := by decide +kernel
theorem dX11_note_76 : decode cX11_note 76 = .ok (.iastore, 1) := by decide +kernel
theorem dX11_note_77 : decode cX11_note 77 = .ok (.aload_n 0, 1) := by decide +kernel
theorem dX11_note_78 : decode cX11_note 78 = .ok (.getfield 7, 3) := by decide +kernel
theorem dX11_note_81 : decode cX11_note 81 = .ok (.bipush 77, 2) := by decide +kernel
theorem dX11_note_83 : decode cX11_note 83 = .ok (.dup2, 1) := by decide +kernel
theorem dX11_note_84 : decode cX11_note 84 = .ok (.iaload, 1) := by decide +kernel
theorem dX11_note_85 : decode cX11_note 85 = .ok (.iconst 1, 1) := by decide +kernel
theorem dX11_note_86 : decode cX11_note 86 = .ok (.iadd, 1) := by decide +kernel
theorem dX11_note_87 : decode cX11_note 87 = .ok (.iastore, 1) := by decide +kernel
theorem dX11_note_88 : decode cX11_note 88 = .ok (.aload_n 0, 1) := by decide +kernel
theorem dX11_note_89 : decode cX11_note 89 = .ok (.getfield 7, 3) := by decide +kernel
theorem dX11_note_92 : decode cX11_note 92 = .ok (.bipush 77, 2) := by decide +kernel
theorem dX11_note_94 : decode cX11_note 94 = .ok (.iaload, 1) := by decide +kernel
theorem dX11_note_95 : decode cX11_note 95 = .ok (.ireturn, 1) := by decide +kernel
theorem dX11_forget_0 : decode cX11_forget 0 = .ok (.aload_n 0, 1) := by decide +kernel
theorem dX11_forget_1 : decode cX11_forget 1 = .ok (.getfield 7, 3) := by decide +kernel
theorem dX11_forget_4 : decode cX11_forget 4 = .ok (.bipush 77, 2) := by decide +kernel
theorem dX11_forget_6 : decode cX11_forget 6 = .ok (.iaload, 1) := by decide +kernel
theorem dX11_forget_7 : decode cX11_forget 7 = .ok (.istore_n 1, 1) := by decide +kernel
theorem dX11_forget_8 : decode cX11_forget 8 = .ok (.aload_n 0, 1) := by decide +kernel
theorem dX11_forget_9 : decode cX11_forget 9 = .ok (.getfield 7, 3) := by decide +kernel
theorem dX11_forget_12 : decode cX11_forget 12 = .ok (.bipush 77, 2) := by decide +kernel
theorem dX11_forget_14 : decode cX11_forget 14 = .ok (.iconst 0, 1) := by decide +kernel
theorem dX11_forget_15 : decode cX11_forget 15 = .ok (.iastore, 1) := by decide +kernel
theorem dX11_forget_16 : decode cX11_forget 16 = .ok (.iload_n 1, 1) := by decide +kernel
theorem dX11_forget_17 : decode cX11_forget 17 = .ok (.ireturn, 1) := by decide +kernel
theorem dX11_whichOnes_0 : decode cX11_whichOnes 0 = .ok (.iconst 0, 1) := by decide +kernel
theorem dX11_whichOnes_1 : decode cX11_whichOnes 1 = .ok (.istore_n 1, 1) := by decide +kernel
theorem dX11_whichOnes_2 : decode cX11_whichOnes 2 = .ok (.iconst 0, 1) := by decide +kernel
theorem dX11_whichOnes_3 : decode cX11_whichOnes 3 = .ok (.istore_n 2, 1) := by decide +kernel
theorem dX11_whichOnes_4 : decode cX11_whichOnes 4 = .ok (.iload_n 2, 1) := by decide +kernel
theorem dX11_whichOnes_5 : decode cX11_whichOnes 5 = .ok (.aload_n 0, 1) := by decide +kernel
theorem dX11_whichOnes_6 : decode cX11_whichOnes 6 = .ok (.getfield 7, 3) := by decide +kernel
theorem dX11_whichOnes_9 : decode cX11_whichOnes 9 = .ok (.bipush 64, 2) := by decide +kernel
theorem dX11_whichOnes_11 : decode cX11_whichOnes 11 = .ok (.iaload, 1) := by decide +kernel
theorem dX11_whichOnes_12 : decode cX11_whichOnes 12 = .ok (.if_icmp .ge 90, 3) := by decide +kernel
theorem dX11_whichOnes_15 : decode cX11_whichOnes 15 = .ok (.iconst 1, 1) := by decide +kernel
theorem dX11_whichOnes_16 : decode cX11_whichOnes 16 = .ok (.istore_n 3, 1) := by decide +kernel
theorem dX11_whichOnes_17 : decode cX11_whichOnes 17 = .ok (.iconst 0, 1) := by decide +kernel
theorem dX11_whichOnes_18 : decode cX11_whichOnes 18 = .ok (.istore 4, 2) := by decide +kernel
theorem dX11_whichOnes_20 : decode cX11_whichOnes 20 = .ok (.iload 4, 2) := by decide +kernel
theorem dX11_whichOnes_22 : decode cX11_whichOnes 22 = .ok (.aload_n 0, 1) := by decide +kernel
theorem dX11_whichOnes_23 : decode cX11_whichOnes 23 = .ok (.getfield 7, 3) := by decide +kernel
theorem dX11_whichOnes_26 : decode cX11_whichOnes 26 = .ok (.bipush 77, 2) := by decide +kernel
theorem dX11_whichOnes_28 : decode cX11_whichOnes 28 = .ok (.iaload, 1) := by decide +kernel
theorem dX11_whichOnes_29 : decode cX11_whichOnes 29 = .ok (.if_icmp .ge 53, 3) := by decide +kernel
theorem dX11_whichOnes_32 : decode cX11_whichOnes 32 = .ok (.iload_n 3, 1) := by decide +kernel
theorem dX11_whichOnes_33 : decode cX11_whichOnes 33 = .ok (.ifCond .eq 41, 3) := by decide +kernel
theorem dX11_whichOnes_36 : decode cX11_whichOnes 36 = .ok (.aload_n 0, 1) := by decide +kernel
theorem dX11_whichOnes_37 : decode cX11_whichOnes 37 = .ok (.aload_n 0, 1) := by decide +kernel
theorem dX11_whichOnes_38 : decode cX11_whichOnes 38 = .ok (.getfield 7, 3) := by decide +kernel
theorem dX11_whichOnes_41 : decode cX11_whichOnes 41 = .ok (.bipush 78, 2) := by decide +kernel
theorem dX11_whichOnes_43 : decode cX11_whichOnes 43 = .ok (.iconst 2, 1) := by decide +kernel
theorem dX11_whichOnes_44 : decode cX11_whichOnes 44 = .ok (.iload 4, 2) := by decide +kernel
theorem dX11_whichOnes_46 : decode cX11_whichOnes 46 = .ok (.imul, 1) := by decide +kernel
theorem dX11_whichOnes_47 : decode cX11_whichOnes 47 = .ok (.iadd, 1) := by decide +kernel
theorem dX11_whichOnes_48 : decode cX11_whichOnes 48 = .ok (.iaload, 1) := by decide +kernel
theorem dX11_whichOnes_49 : decode cX11_whichOnes 49 = .ok (.iload_n 2, 1) := by decide +kernel
theorem dX11_whichOnes_50 : decode cX11_whichOnes 50 = .ok (.invokevirtual 182, 3) := by decide +kernel
theorem dX11_whichOnes_53 : decode cX11_whichOnes 53 = .ok (.aload_n 0, 1) := by decide +kernel
theorem dX11_whichOnes_54 : decode cX11_whichOnes 54 = .ok (.getfield 7, 3) := by decide +kernel
theorem dX11_whichOnes_57 : decode cX11_whichOnes 57 = .ok (.bipush 78, 2) := by decide +kernel
theorem dX11_whichOnes_59 : decode cX11_whichOnes 59 = .ok (.iconst 2, 1) := by decide +kernel
theorem dX11_whichOnes_60 : decode cX11_whichOnes 60 = .ok (.iload 4, 2) := by decide +kernel
theorem dX11_whichOnes_62 : decode cX11_whichOnes 62 = .ok (.imul, 1) := by decide +kernel
theorem dX11_whichOnes_63 : decode cX11_whichOnes 63 = .ok (.iadd, 1) := by decide +kernel
theorem dX11_whichOnes_64 : decode cX11_whichOnes 64 = .ok (.iconst 1, 1) := by decide +kernel
theorem dX11_whichOnes_65 : decode cX11_whichOnes 65 = .ok (.iadd, 1) := by decide +kernel
theorem dX11_whichOnes_66 : decode cX11_whichOnes 66 = .ok (.iaload, 1) := by decide +kernel
theorem dX11_whichOnes_67 : decode cX11_whichOnes 67 = .ok (.if_icmp .ne 7, 3) := by decide +kernel
theorem dX11_whichOnes_70 : decode cX11_whichOnes 70 = .ok (.iconst 1, 1) := by decide +kernel
theorem dX11_whichOnes_71 : decode cX11_whichOnes 71 = .ok (.goto 4, 3) := by decide +kernel
theorem dX11_whichOnes_74 : decode cX11_whichOnes 74 = .ok (.iconst 0, 1) := by decide +kernel
theorem dX11_whichOnes_75 : decode cX11_whichOnes 75 = .ok (.istore_n 3, 1) := by decide +kernel
theorem dX11_whichOnes_76 : decode cX11_whichOnes 76 = .ok (.iinc 4 1, 3) := by decide +kernel
theorem dX11_whichOnes_79 : decode cX11_whichOnes 79 = .ok (.goto (-59), 3) := by decide +kernel
theorem dX11_whichOnes_82 : decode cX11_whichOnes 82 = .ok (.iload_n 1, 1) := by decide +kernel
theorem dX11_whichOnes_83 : decode cX11_whichOnes 83 = .ok (.iload_n 3, 1) := by decide +kernel
theorem dX11_whichOnes_84 : decode cX11_whichOnes 84 = .ok (.ifCond .eq 9, 3) := by decide +kernel
theorem dX11_whichOnes_87 : decode cX11_whichOnes 87 = .ok (.iconst 1, 1) := by decide +kernel
theorem dX11_whichOnes_88 : decode cX11_whichOnes 88 = .ok (.iload_n 2, 1) := by decide +kernel
theorem dX11_whichOnes_89 : decode cX11_whichOnes 89 = .ok (.ishl, 1) := by decide +kernel
theorem dX11_whichOnes_90 : decode cX11_whichOnes 90 = .ok (.goto 4, 3) := by decide +kernel
theorem dX11_whichOnes_93 : decode cX11_whichOnes 93 = .ok (.iconst 0, 1) := by decide +kernel
theorem dX11_whichOnes_94 : decode cX11_whichOnes 94 = .ok (.ior, 1) := by decide +kernel
theorem dX11_whichOnes_95 : decode cX11_whichOnes 95 = .ok (.istore_n 1, 1) := by decide +kernel
theorem dX11_whichOnes_96 : decode cX11_whichOnes 96 = .ok (.iinc 2 1, 3) := by decide +kernel
theorem dX11_whichOnes_99 : decode cX11_whichOnes 99 = .ok (.goto (-95), 3) := by decide +kernel
theorem dX11_whichOnes_102 : decode cX11_whichOnes 102 = .ok (.iload_n 1, 1) := by decide +kernel
theorem dX11_whichOnes_103 : decode cX11_whichOnes 103 = .ok (.ireturn, 1) := by decide +kernel
theorem dX11_which_0 : decode cX11_which 0 = .ok (.aload_n 0, 1) := by decide +kernel
theorem dX11_which_1 : decode cX11_which 1 = .ok (.invokevirtual 146, 3) := by decide +kernel
theorem dX11_which_4 : decode cX11_which 4 = .ok (.aload_n 0, 1) := by decide +kernel
theorem dX11_which_5 : decode cX11_which 5 = .ok (.invokevirtual 209, 3) := by decide +kernel
theorem dX11_which_8 : decode cX11_which 8 = .ok (.ireturn, 1) := by decide +kernel
theorem dX11_stand_0 : decode cX11_stand 0 = .ok (.aload_n 0, 1) := by decide +kernel
theorem dX11_stand_1 : decode cX11_stand 1 = .ok (.invokevirtual 146, 3) := by decide +kernel
theorem dX11_stand_4 : decode cX11_stand 4 = .ok (.aload_n 0, 1) := by decide +kernel
theorem dX11_stand_5 : decode cX11_stand 5 = .ok (.invokevirtual 209, 3) := by decide +kernel
theorem dX11_stand_8 : decode cX11_stand 8 = .ok (.istore_n 1, 1) := by decide +kernel
theorem dX11_stand_9 : decode cX11_stand 9 = .ok (.iconst (-1), 1) := by decide +kernel
theorem dX11_stand_10 : decode cX11_stand 10 = .ok (.istore_n 2, 1) := by decide +kernel
theorem dX11_stand_11 : decode cX11_stand 11 = .ok (.bipush 99, 2) := by decide +kernel
theorem dX11_stand_13 : decode cX11_stand 13 = .ok (.istore_n 3, 1) := by decide +kernel
theorem dX11_stand_14 : decode cX11_stand 14 = .ok (.iconst 0, 1) := by decide +kernel
theorem dX11_stand_15 : decode cX11_stand 15 = .ok (.istore 4, 2) := by decide +kernel
theorem dX11_stand_17 : decode cX11_stand 17 = .ok (.iload 4, 2) := by decide +kernel
theorem dX11_stand_19 : decode cX11_stand 19 = .ok (.bipush 8, 2) := by decide +kernel
theorem dX11_stand_21 : decode cX11_stand 21 = .ok (.if_icmp .ge 106, 3) := by decide +kernel
theorem dX11_stand_24 : decode cX11_stand 24 = .ok (.iload_n 1, 1) := by decide +kernel
theorem dX11_stand_25 : decode cX11_stand 25 = .ok (.ifCond .eq 102, 3) := by decide +kernel
theorem dX11_stand_28 : decode cX11_stand 28 = .ok (.iconst 0, 1) := by decide +kernel
theorem dX11_stand_29 : decode cX11_stand 29 = .ok (.istore 5, 2) := by decide +kernel
theorem dX11_stand_31 : decode cX11_stand 31 = .ok (.iconst 0, 1) := by decide +kernel
theorem dX11_stand_32 : decode cX11_stand 32 = .ok (.istore 6, 2) := by decide +kernel
theorem dX11_stand_34 : decode cX11_stand 34 = .ok (.iload 6, 2) := by decide +kernel
theorem dX11_stand_36 : decode cX11_stand 36 = .ok (.aload_n 0, 1) := by decide +kernel
theorem dX11_stand_37 : decode cX11_stand 37 = .ok (.getfield 7, 3) := by decide +kernel
theorem dX11_stand_40 : decode cX11_stand 40 = .ok (.bipush 64, 2) := by decide +kernel
theorem dX11_stand_42 : decode cX11_stand 42 = .ok (.iaload, 1) := by decide +kernel
theorem dX11_stand_43 : decode cX11_stand 43 = .ok (.if_icmp .ge 52, 3) := by decide +kernel
theorem dX11_stand_46 : decode cX11_stand 46 = .ok (.iload_n 1, 1) := by decide +kernel
theorem dX11_stand_47 : decode cX11_stand 47 = .ok (.iload 6, 2) := by decide +kernel
theorem dX11_stand_49 : decode cX11_stand 49 = .ok (.invokestatic 166, 3) := by decide +kernel
theorem dX11_stand_52 : decode cX11_stand 52 = .ok (.ifCond .eq 18, 3) := by decide +kernel
theorem dX11_stand_55 : decode cX11_stand 55 = .ok (.aload_n 0, 1) := by decide +kernel
theorem dX11_stand_56 : decode cX11_stand 56 = .ok (.iload 4, 2) := by decide +kernel
theorem dX11_stand_58 : decode cX11_stand 58 = .ok (.iload_n 1, 1) := by decide +kernel
theorem dX11_stand_59 : decode cX11_stand 59 = .ok (.iload 6, 2) := by decide +kernel
theorem dX11_stand_61 : decode cX11_stand 61 = .ok (.invokevirtual 191, 3) := by decide +kernel
theorem dX11_stand_64 : decode cX11_stand 64 = .ok (.invokestatic 188, 3) := by decide +kernel
theorem dX11_stand_67 : decode cX11_stand 67 = .ok (.goto 4, 3) := by decide +kernel
theorem dX11_stand_70 : decode cX11_stand 70 = .ok (.iconst 0, 1) := by decide +kernel
theorem dX11_stand_71 : decode cX11_stand 71 = .ok (.istore 7, 2) := by decide +kernel
theorem dX11_stand_73 : decode cX11_stand 73 = .ok (.iload 7, 2) := by decide +kernel
theorem dX11_stand_75 : decode cX11_stand 75 = .ok (.iload 5, 2) := by decide +kernel
theorem dX11_stand_77 : decode cX11_stand 77 = .ok (.if_icmp .le 8, 3) := by decide +kernel
theorem dX11_stand_80 : decode cX11_stand 80 = .ok (.iload 7, 2) := by decide +kernel
theorem dX11_stand_82 : decode cX11_stand 82 = .ok (.goto 5, 3) := by decide +kernel
theorem dX11_stand_85 : decode cX11_stand 85 = .ok (.iload 5, 2) := by decide +kernel
theorem dX11_stand_87 : decode cX11_stand 87 = .ok (.istore 5, 2) := by decide +kernel
theorem dX11_stand_89 : decode cX11_stand 89 = .ok (.iinc 6 1, 3) := by decide +kernel
theorem dX11_stand_92 : decode cX11_stand 92 = .ok (.goto (-58), 3) := by decide +kernel
theorem dX11_stand_95 : decode cX11_stand 95 = .ok (.iload 5, 2) := by decide +kernel
theorem dX11_stand_97 : decode cX11_stand 97 = .ok (.iload_n 3, 1) := by decide +kernel
theorem dX11_stand_98 : decode cX11_stand 98 = .ok (.if_icmp .ge 8, 3) := by decide +kernel
theorem dX11_stand_101 : decode cX11_stand 101 = .ok (.iload 4, 2) := by decide +kernel
theorem dX11_stand_103 : decode cX11_stand 103 = .ok (.goto 4, 3) := by decide +kernel
theorem dX11_stand_106 : decode cX11_stand 106 = .ok (.iload_n 2, 1) := by decide +kernel
theorem dX11_stand_107 : decode cX11_stand 107 = .ok (.istore_n 2, 1) := by decide +kernel
theorem dX11_stand_108 : decode cX11_stand 108 = .ok (.iload 5, 2) := by decide +kernel
theorem dX11_stand_110 : decode cX11_stand 110 = .ok (.iload_n 3, 1) := by decide +kernel
theorem dX11_stand_111 : decode cX11_stand 111 = .ok (.if_icmp .ge 8, 3) := by decide +kernel
theorem dX11_stand_114 : decode cX11_stand 114 = .ok (.iload 5, 2) := by decide +kernel
theorem dX11_stand_116 : decode cX11_stand 116 = .ok (.goto 4, 3) := by decide +kernel
theorem dX11_stand_119 : decode cX11_stand 119 = .ok (.iload_n 3, 1) := by decide +kernel
theorem dX11_stand_120 : decode cX11_stand 120 = .ok (.istore_n 3, 1) := by decide +kernel
theorem dX11_stand_121 : decode cX11_stand 121 = .ok (.iinc 4 1, 3) := by decide +kernel
theorem dX11_stand_124 : decode cX11_stand 124 = .ok (.goto (-107), 3) := by decide +kernel
theorem dX11_stand_127 : decode cX11_stand 127 = .ok (.iload_n 2, 1) := by decide +kernel
theorem dX11_stand_128 : decode cX11_stand 128 = .ok (.ireturn, 1) := by decide +kernel
theorem dX11_is_0 : decode cX11_is 0 = .ok (.aload_n 0, 1) := by decide +kernel
theorem dX11_is_1 : decode cX11_is 1 = .ok (.iload_n 1, 1) := by decide +kernel
theorem dX11_is_2 : decode cX11_is 2 = .ok (.invokevirtual 160, 3) := by decide +kernel
theorem dX11_is_5 : decode cX11_is 5 = .ok (.ifCond .eq 23, 3) := by decide +kernel
theorem dX11_is_8 : decode cX11_is 8 = .ok (.iload_n 2, 1) := by decide +kernel
theorem dX11_is_9 : decode cX11_is 9 = .ok (.iconst 0, 1) := by decide +kernel
theorem dX11_is_10 : decode cX11_is 10 = .ok (.sipush 9999, 3) := by decide +kernel
theorem dX11_is_13 : decode cX11_is 13 = .ok (.invokestatic 52, 3) := by decide +kernel
theorem dX11_is_16 : decode cX11_is 16 = .ok (.ifCond .eq 12, 3) := by decide +kernel
theorem dX11_is_19 : decode cX11_is 19 = .ok (.iload_n 3, 1) := by decide +kernel
theorem dX11_is_20 : decode cX11_is 20 = .ok (.iconst 0, 1) := by decide +kernel
theorem dX11_is_21 : decode cX11_is 21 = .ok (.iconst 1, 1) := by decide +kernel
theorem dX11_is_22 : decode cX11_is 22 = .ok (.invokestatic 52, 3) := by decide +kernel
theorem dX11_is_25 : decode cX11_is 25 = .ok (.ifCond .ne 8, 3) := by decide +kernel
theorem dX11_is_28 : decode cX11_is 28 = .ok (.aload_n 0, 1) := by decide +kernel
theorem dX11_is_29 : decode cX11_is 29 = .ok (.invokevirtual 60, 3) := by decide +kernel
theorem dX11_is_32 : decode cX11_is 32 = .ok (.ireturn, 1) := by decide +kernel
theorem dX11_is_33 : decode cX11_is 33 = .ok (.iconst 0, 1) := by decide +kernel
theorem dX11_is_34 : decode cX11_is 34 = .ok (.istore 4, 2) := by decide +kernel
theorem dX11_is_36 : decode cX11_is 36 = .ok (.iconst 0, 1) := by decide +kernel
theorem dX11_is_37 : decode cX11_is 37 = .ok (.istore 5, 2) := by decide +kernel
theorem dX11_is_39 : decode cX11_is 39 = .ok (.iload 5, 2) := by decide +kernel
theorem dX11_is_41 : decode cX11_is 41 = .ok (.bipush 6, 2) := by decide +kernel
theorem dX11_is_43 : decode cX11_is 43 = .ok (.if_icmp .ge 57, 3) := by decide +kernel
theorem dX11_is_46 : decode cX11_is 46 = .ok (.iload 4, 2) := by decide +kernel
theorem dX11_is_48 : decode cX11_is 48 = .ok (.iload 5, 2) := by decide +kernel
theorem dX11_is_50 : decode cX11_is 50 = .ok (.aload_n 0, 1) := by decide +kernel
theorem dX11_is_51 : decode cX11_is 51 = .ok (.getfield 7, 3) := by decide +kernel
theorem dX11_is_54 : decode cX11_is 54 = .ok (.bipush 94, 2) := by decide +kernel
theorem dX11_is_56 : decode cX11_is 56 = .ok (.iload_n 1, 1) := by decide +kernel
theorem dX11_is_57 : decode cX11_is 57 = .ok (.iadd, 1) := by decide +kernel
theorem dX11_is_58 : decode cX11_is 58 = .ok (.iaload, 1) := by decide +kernel
theorem dX11_is_59 : decode cX11_is 59 = .ok (.iload_n 2, 1) := by decide +kernel
theorem dX11_is_60 : decode cX11_is 60 = .ok (.aload_n 0, 1) := by decide +kernel
theorem dX11_is_61 : decode cX11_is 61 = .ok (.getfield 7, 3) := by decide +kernel
theorem dX11_is_64 : decode cX11_is 64 = .ok (.bipush 92, 2) := by decide +kernel
theorem dX11_is_66 : decode cX11_is 66 = .ok (.iaload, 1) := by decide +kernel
theorem dX11_is_67 : decode cX11_is 67 = .ok (.invokestatic 172, 3) := by decide +kernel
theorem dX11_is_70 : decode cX11_is 70 = .ok (.iload_n 3, 1) := by decide +kernel
theorem dX11_is_71 : decode cX11_is 71 = .ok (.iconst 1, 1) := by decide +kernel
theorem dX11_is_72 : decode cX11_is 72 = .ok (.if_icmp .ne 7, 3) := by decide +kernel
theorem dX11_is_75 : decode cX11_is 75 = .ok (.iconst 1, 1) := by decide +kernel
theorem dX11_is_76 : decode cX11_is 76 = .ok (.goto 4, 3) := by decide +kernel
theorem dX11_is_79 : decode cX11_is 79 = .ok (.iconst 0, 1) := by decide +kernel
theorem dX11_is_80 : decode cX11_is 80 = .ok (.if_icmp .ne 10, 3) := by decide +kernel
theorem dX11_is_83 : decode cX11_is 83 = .ok (.iconst 1, 1) := by decide +kernel
theorem dX11_is_84 : decode cX11_is 84 = .ok (.iload 5, 2) := by decide +kernel
theorem dX11_is_86 : decode cX11_is 86 = .ok (.ishl, 1) := by decide +kernel
theorem dX11_is_87 : decode cX11_is 87 = .ok (.goto 4, 3) := by decide +kernel
theorem dX11_is_90 : decode cX11_is 90 = .ok (.iconst 0, 1) := by decide +kernel
theorem dX11_is_91 : decode cX11_is 91 = .ok (.ior, 1) := by decide +kernel
theorem dX11_is_92 : decode cX11_is 92 = .ok (.istore 4, 2) := by decide +kernel
theorem dX11_is_94 : decode cX11_is 94 = .ok (.iinc 5 1, 3) := by decide +kernel
theorem dX11_is_97 : decode cX11_is 97 = .ok (.goto (-58), 3) := by decide +kernel
theorem dX11_is_100 : decode cX11_is 100 = .ok (.iload 4, 2) := by decide +kernel
theorem dX11_is_102 : decode cX11_is 102 = .ok (.ireturn, 1) := by decide +kernel
theorem dX11_missed_0 : decode cX11_missed 0 = .ok (.iload_n 1, 1) := by decide +kernel
theorem dX11_missed_1 : decode cX11_missed 1 = .ok (.invokestatic 56, 3) := by decide +kernel
theorem dX11_missed_4 : decode cX11_missed 4 = .ok (.ifCond .eq 24, 3) := by decide +kernel
theorem dX11_missed_7 : decode cX11_missed 7 = .ok (.iload_n 2, 1) := by decide +kernel
theorem dX11_missed_8 : decode cX11_missed 8 = .ok (.iconst 0, 1) := by decide +kernel
theorem dX11_missed_9 : decode cX11_missed 9 = .ok (.sipush 9999, 3) := by decide +kernel
theorem dX11_missed_12 : decode cX11_missed 12 = .ok (.invokestatic 52, 3) := by decide +kernel
theorem dX11_missed_15 : decode cX11_missed 15 = .ok (.ifCond .eq 13, 3) := by decide +kernel
theorem dX11_missed_18 : decode cX11_missed 18 = .ok (.iload_n 3, 1) := by decide +kernel
theorem dX11_missed_19 : decode cX11_missed 19 = .ok (.iconst 0, 1) := by decide +kernel
theorem dX11_missed_20 : decode cX11_missed 20 = .ok (.bipush 10, 2) := by decide +kernel
theorem dX11_missed_22 : decode cX11_missed 22 = .ok (.invokestatic 52, 3) := by decide +kernel
theorem dX11_missed_25 : decode cX11_missed 25 = .ok (.ifCond .ne 8, 3) := by decide +kernel
theorem dX11_missed_28 : decode cX11_missed 28 = .ok (.aload_n 0, 1) := by decide +kernel
theorem dX11_missed_29 : decode cX11_missed 29 = .ok (.invokevirtual 60, 3) := by decide +kernel
theorem dX11_missed_32 : decode cX11_missed 32 = .ok (.ireturn, 1) := by decide +kernel
theorem dX11_missed_33 : decode cX11_missed 33 = .ok (.aload_n 0, 1) := by decide +kernel
theorem dX11_missed_34 : decode cX11_missed 34 = .ok (.invokevirtual 146, 3) := by decide +kernel
theorem dX11_missed_37 : decode cX11_missed 37 = .ok (.aload_n 0, 1) := by decide +kernel
theorem dX11_missed_38 : decode cX11_missed 38 = .ok (.iload_n 1, 1) := by decide +kernel
theorem dX11_missed_39 : decode cX11_missed 39 = .ok (.iload_n 2, 1) := by decide +kernel
theorem dX11_missed_40 : decode cX11_missed 40 = .ok (.aload_n 0, 1) := by decide +kernel
theorem dX11_missed_41 : decode cX11_missed 41 = .ok (.getfield 7, 3) := by decide +kernel
theorem dX11_missed_44 : decode cX11_missed 44 = .ok (.bipush 92, 2) := by decide +kernel
theorem dX11_missed_46 : decode cX11_missed 46 = .ok (.iaload, 1) := by decide +kernel
theorem dX11_missed_47 : decode cX11_missed 47 = .ok (.invokevirtual 149, 3) := by decide +kernel
theorem dX11_missed_50 : decode cX11_missed 50 = .ok (.invokestatic 188, 3) := by decide +kernel
theorem dX11_missed_53 : decode cX11_missed 53 = .ok (.i2l, 1) := by decide +kernel
theorem dX11_missed_54 : decode cX11_missed 54 = .ok (.ldc2_w 212, 3) := by decide +kernel
theorem dX11_missed_57 : decode cX11_missed 57 = .ok (.iload_n 3, 1) := by decide +kernel
theorem dX11_missed_58 : decode cX11_missed 58 = .ok (.i2l, 1) := by decide +kernel
theorem dX11_missed_59 : decode cX11_missed 59 = .ok (.lsub, 1) := by decide +kernel
theorem dX11_missed_60 : decode cX11_missed 60 = .ok (.lmul, 1) := by decide +kernel
theorem dX11_missed_61 : decode cX11_missed 61 = .ok (.lstore 4, 2) := by decide +kernel
theorem dX11_missed_63 : decode cX11_missed 63 = .ok (.lload 4, 2) := by decide +kernel
theorem dX11_missed_65 : decode cX11_missed 65 = .ok (.lstore 6, 2) := by decide +kernel
theorem dX11_missed_67 : decode cX11_missed 67 = .ok (.ldc2_w 212, 3) := by decide +kernel
theorem dX11_missed_70 : decode cX11_missed 70 = .ok (.lstore 8, 2) := by decide +kernel
theorem dX11_missed_72 : decode cX11_missed 72 = .ok (.lload 8, 2) := by decide +kernel
theorem dX11_missed_74 : decode cX11_missed 74 = .ok (.lconst 0, 1) := by decide +kernel
theorem dX11_missed_75 : decode cX11_missed 75 = .ok (.lcmp, 1) := by decide +kernel
theorem dX11_missed_76 : decode cX11_missed 76 = .ok (.ifCond .le 21, 3) := by decide +kernel
theorem dX11_missed_79 : decode cX11_missed 79 = .ok (.lload 6, 2) := by decide +kernel
theorem dX11_missed_81 : decode cX11_missed 81 = .ok (.lload 8, 2) := by decide +kernel
theorem dX11_missed_83 : decode cX11_missed 83 = .ok (.lrem, 1) := by decide +kernel
theorem dX11_missed_84 : decode cX11_missed 84 = .ok (.lstore 10, 2) := by decide +kernel
theorem dX11_missed_86 : decode cX11_missed 86 = .ok (.lload 8, 2) := by decide +kernel
theorem dX11_missed_88 : decode cX11_missed 88 = .ok (.lstore 6, 2) := by decide +kernel
theorem dX11_missed_90 : decode cX11_missed 90 = .ok (.lload 10, 2) := by decide +kernel
theorem dX11_missed_92 : decode cX11_missed 92 = .ok (.lstore 8, 2) := by decide +kernel
theorem dX11_missed_94 : decode cX11_missed 94 = .ok (.goto (-22), 3) := by decide +kernel
theorem dX11_missed_97 : decode cX11_missed 97 = .ok (.aload_n 0, 1) := by decide +kernel
theorem dX11_missed_98 : decode cX11_missed 98 = .ok (.lload 4, 2) := by decide +kernel
theorem dX11_missed_100 : decode cX11_missed 100 = .ok (.lload 6, 2) := by decide +kernel
theorem dX11_missed_102 : decode cX11_missed 102 = .ok (.ldiv, 1) := by decide +kernel
theorem dX11_missed_103 : decode cX11_missed 103 = .ok (.putfield 214, 3) := by decide +kernel
theorem dX11_missed_106 : decode cX11_missed 106 = .ok (.aload_n 0, 1) := by decide +kernel
theorem dX11_missed_107 : decode cX11_missed 107 = .ok (.ldc2_w 212, 3) := by decide +kernel
theorem dX11_missed_110 : decode cX11_missed 110 = .ok (.lload 6, 2) := by decide +kernel
theorem dX11_missed_112 : decode cX11_missed 112 = .ok (.ldiv, 1) := by decide +kernel
theorem dX11_missed_113 : decode cX11_missed 113 = .ok (.putfield 26, 3) := by decide +kernel
theorem dX11_missed_116 : decode cX11_missed 116 = .ok (.iconst 1, 1) := by decide +kernel
theorem dX11_missed_117 : decode cX11_missed 117 = .ok (.ireturn, 1) := by decide +kernel
theorem dX11_nights_0 : decode cX11_nights 0 = .ok (.iload_n 1, 1) := by decide +kernel
theorem dX11_nights_1 : decode cX11_nights 1 = .ok (.iconst 0, 1) := by decide +kernel
theorem dX11_nights_2 : decode cX11_nights 2 = .ok (.ldc 217, 2) := by decide +kernel
theorem dX11_nights_4 : decode cX11_nights 4 = .ok (.invokestatic 52, 3) := by decide +kernel
theorem dX11_nights_7 : decode cX11_nights 7 = .ok (.ifCond .eq 13, 3) := by decide +kernel
theorem dX11_nights_10 : decode cX11_nights 10 = .ok (.iload_n 2, 1) := by decide +kernel
theorem dX11_nights_11 : decode cX11_nights 11 = .ok (.iconst 0, 1) := by decide +kernel
theorem dX11_nights_12 : decode cX11_nights 12 = .ok (.bipush 60, 2) := by decide +kernel
theorem dX11_nights_14 : decode cX11_nights 14 = .ok (.invokestatic 52, 3) := by decide +kernel
theorem dX11_nights_17 : decode cX11_nights 17 = .ok (.ifCond .ne 8, 3) := by decide +kernel
theorem dX11_nights_20 : decode cX11_nights 20 = .ok (.aload_n 0, 1) := by decide +kernel
theorem dX11_nights_21 : decode cX11_nights 21 = .ok (.invokevirtual 60, 3) := by decide +kernel
theorem dX11_nights_24 : decode cX11_nights 24 = .ok (.ireturn, 1) := by decide +kernel
theorem dX11_nights_25 : decode cX11_nights 25 = .ok (.aload_n 0, 1) := by decide +kernel
theorem dX11_nights_26 : decode cX11_nights 26 = .ok (.invokevirtual 146, 3) := by decide +kernel
theorem dX11_nights_29 : decode cX11_nights 29 = .ok (.iload_n 1, 1) := by decide +kernel
theorem dX11_nights_30 : decode cX11_nights 30 = .ok (.i2l, 1) := by decide +kernel
theorem dX11_nights_31 : decode cX11_nights 31 = .ok (.lstore_n 3, 1) := by decide +kernel
theorem dX11_nights_32 : decode cX11_nights 32 = .ok (.iconst 0, 1) := by decide +kernel
theorem dX11_nights_33 : decode cX11_nights 33 = .ok (.istore 5, 2) := by decide +kernel
theorem dX11_nights_35 : decode cX11_nights 35 = .ok (.iconst 0, 1) := by decide +kernel
theorem dX11_nights_36 : decode cX11_nights 36 = .ok (.istore 6, 2) := by decide +kernel
theorem dX11_nights_38 : decode cX11_nights 38 = .ok (.iload 6, 2) := by decide +kernel
theorem dX11_nights_40 : decode cX11_nights 40 = .ok (.iload_n 2, 1) := by decide +kernel
theorem dX11_nights_41 : decode cX11_nights 41 = .ok (.if_icmp .ge 106, 3) := by decide +kernel
theorem dX11_nights_44 : decode cX11_nights 44 = .ok (.lload_n 3, 1) := by decide +kernel
theorem dX11_nights_45 : decode cX11_nights 45 = .ok (.ldc2_w 218, 3) := by decide +kernel
theorem dX11_nights_48 : decode cX11_nights 48 = .ok (.lmul, 1) := by decide +kernel
theorem dX11_nights_49 : decode cX11_nights 49 = .ok (.ldc2_w 220, 3) := by decide +kernel
theorem dX11_nights_52 : decode cX11_nights 52 = .ok (.ladd, 1) := by decide +kernel
theorem dX11_nights_53 : decode cX11_nights 53 = .ok (.ldc2_w 222, 3) := by decide +kernel
theorem dX11_nights_56 : decode cX11_nights 56 = .ok (.lrem, 1) := by decide +kernel
theorem dX11_nights_57 : decode cX11_nights 57 = .ok (.lstore_n 3, 1) := by decide +kernel
theorem dX11_nights_58 : decode cX11_nights 58 = .ok (.lload_n 3, 1) := by decide +kernel
theorem dX11_nights_59 : decode cX11_nights 59 = .ok (.ldc2_w 224, 3) := by decide +kernel
theorem dX11_nights_62 : decode cX11_nights 62 = .ok (.ldiv, 1) := by decide +kernel
theorem dX11_nights_63 : decode cX11_nights 63 = .ok (.ldc2_w 226, 3) := by decide +kernel
theorem dX11_nights_66 : decode cX11_nights 66 = .ok (.lrem, 1) := by decide +kernel
theorem dX11_nights_67 : decode cX11_nights 67 = .ok (.l2i, 1) := by decide +kernel
theorem dX11_nights_68 : decode cX11_nights 68 = .ok (.istore 7, 2) := by decide +kernel
theorem dX11_nights_70 : decode cX11_nights 70 = .ok (.lload_n 3, 1) := by decide +kernel
theorem dX11_nights_71 : decode cX11_nights 71 = .ok (.ldc2_w 228, 3) := by decide +kernel
theorem dX11_nights_74 : decode cX11_nights 74 = .ok (.ldiv, 1) := by decide +kernel
theorem dX11_nights_75 : decode cX11_nights 75 = .ok (.ldc2_w 212, 3) := by decide +kernel
theorem dX11_nights_78 : decode cX11_nights 78 = .ok (.lrem, 1) := by decide +kernel
theorem dX11_nights_79 : decode cX11_nights 79 = .ok (.l2i, 1) := by decide +kernel
theorem dX11_nights_80 : decode cX11_nights 80 = .ok (.istore 8, 2) := by decide +kernel
theorem dX11_nights_82 : decode cX11_nights 82 = .ok (.iconst 0, 1) := by decide +kernel
theorem dX11_nights_83 : decode cX11_nights 83 = .ok (.istore 9, 2) := by decide +kernel
theorem dX11_nights_85 : decode cX11_nights 85 = .ok (.iconst 0, 1) := by decide +kernel
theorem dX11_nights_86 : decode cX11_nights 86 = .ok (.istore 10, 2) := by decide +kernel
theorem dX11_nights_88 : decode cX11_nights 88 = .ok (.iload 10, 2) := by decide +kernel
theorem dX11_nights_90 : decode cX11_nights 90 = .ok (.bipush 120, 2) := by decide +kernel
theorem dX11_nights_92 : decode cX11_nights 92 = .ok (.if_icmp .ge 34, 3) := by decide +kernel
theorem dX11_nights_95 : decode cX11_nights 95 = .ok (.iload 9, 2) := by decide +kernel
theorem dX11_nights_97 : decode cX11_nights 97 = .ok (.ifCond .ne 16, 3) := by decide +kernel
theorem dX11_nights_100 : decode cX11_nights 100 = .ok (.aload_n 0, 1) := by decide +kernel
theorem dX11_nights_101 : decode cX11_nights 101 = .ok (.iload 7, 2) := by decide +kernel
theorem dX11_nights_103 : decode cX11_nights 103 = .ok (.iload 10, 2) := by decide +kernel
theorem dX11_nights_105 : decode cX11_nights 105 = .ok (.iload 8, 2) := by decide +kernel
theorem dX11_nights_107 : decode cX11_nights 107 = .ok (.invokevirtual 149, 3) := by decide +kernel
theorem dX11_nights_110 : decode cX11_nights 110 = .ok (.ifCond .eq 7, 3) := by decide +kernel
theorem dX11_nights_113 : decode cX11_nights 113 = .ok (.iconst 1, 1) := by decide +kernel
theorem dX11_nights_114 : decode cX11_nights 114 = .ok (.goto 4, 3) := by decide +kernel
theorem dX11_nights_117 : decode cX11_nights 117 = .ok (.iconst 0, 1) := by decide +kernel
theorem dX11_nights_118 : decode cX11_nights 118 = .ok (.istore 9, 2) := by decide +kernel
theorem dX11_nights_120 : decode cX11_nights 120 = .ok (.iinc 10 1, 3) := by decide +kernel
theorem dX11_nights_123 : decode cX11_nights 123 = .ok (.goto (-35), 3) := by decide +kernel
theorem dX11_nights_126 : decode cX11_nights 126 = .ok (.iload 5, 2) := by decide +kernel
theorem dX11_nights_128 : decode cX11_nights 128 = .ok (.iload 9, 2) := by decide +kernel
theorem dX11_nights_130 : decode cX11_nights 130 = .ok (.ifCond .eq 7, 3) := by decide +kernel
theorem dX11_nights_133 : decode cX11_nights 133 = .ok (.iconst 1, 1) := by decide +kernel
theorem dX11_nights_134 : decode cX11_nights 134 = .ok (.goto 4, 3) := by decide +kernel
theorem dX11_nights_137 : decode cX11_nights 137 = .ok (.iconst 0, 1) := by decide +kernel
theorem dX11_nights_138 : decode cX11_nights 138 = .ok (.iadd, 1) := by decide +kernel
theorem dX11_nights_139 : decode cX11_nights 139 = .ok (.istore 5, 2) := by decide +kernel
theorem dX11_nights_141 : decode cX11_nights 141 = .ok (.iinc 6 1, 3) := by decide +kernel
theorem dX11_nights_144 : decode cX11_nights 144 = .ok (.goto (-106), 3) := by decide +kernel
theorem dX11_nights_147 : decode cX11_nights 147 = .ok (.iload 5, 2) := by decide +kernel
theorem dX11_nights_149 : decode cX11_nights 149 = .ok (.ireturn, 1) := by decide +kernel
theorem dX11_part_0 : decode cX11_part 0 = .ok (.iload_n 1, 1) := by decide +kernel
theorem dX11_part_1 : decode cX11_part 1 = .ok (.ifCond .ne 10, 3) := by decide +kernel
theorem dX11_part_4 : decode cX11_part 4 = .ok (.aload_n 0, 1) := by decide +kernel
theorem dX11_part_5 : decode cX11_part 5 = .ok (.getfield 214, 3) := by decide +kernel
theorem dX11_part_8 : decode cX11_part 8 = .ok (.goto 20, 3) := by decide +kernel
theorem dX11_part_11 : decode cX11_part 11 = .ok (.iload_n 1, 1) := by decide +kernel
theorem dX11_part_12 : decode cX11_part 12 = .ok (.iconst 1, 1) := by decide +kernel
theorem dX11_part_13 : decode cX11_part 13 = .ok (.if_icmp .ne 10, 3) := by decide +kernel
theorem dX11_part_16 : decode cX11_part 16 = .ok (.aload_n 0, 1) := by decide +kernel
theorem dX11_part_17 : decode cX11_part 17 = .ok (.getfield 26, 3) := by decide +kernel
theorem dX11_part_20 : decode cX11_part 20 = .ok (.goto 8, 3) := by decide +kernel
theorem dX11_part_23 : decode cX11_part 23 = .ok (.aload_n 0, 1) := by decide +kernel
theorem dX11_part_24 : decode cX11_part 24 = .ok (.invokevirtual 60, 3) := by decide +kernel
theorem dX11_part_27 : decode cX11_part 27 = .ok (.i2l, 1) := by decide +kernel
theorem dX11_part_28 : decode cX11_part 28 = .ok (.lreturn, 1) := by decide +kernel
theorem dX11_image_0 : decode cX11_image 0 = .ok (.iload_n 1, 1) := by decide +kernel
theorem dX11_image_1 : decode cX11_image 1 = .ok (.iconst 0, 1) := by decide +kernel
theorem dX11_image_2 : decode cX11_image 2 = .ok (.iconst 1, 1) := by decide +kernel
theorem dX11_image_3 : decode cX11_image 3 = .ok (.invokestatic 52, 3) := by decide +kernel
theorem dX11_image_6 : decode cX11_image 6 = .ok (.ifCond .ne 8, 3) := by decide +kernel
theorem dX11_image_9 : decode cX11_image 9 = .ok (.aload_n 0, 1) := by decide +kernel
theorem dX11_image_10 : decode cX11_image 10 = .ok (.invokevirtual 60, 3) := by decide +kernel
theorem dX11_image_13 : decode cX11_image 13 = .ok (.ireturn, 1) := by decide +kernel
theorem dX11_image_14 : decode cX11_image 14 = .ok (.aload_n 0, 1) := by decide +kernel
theorem dX11_image_15 : decode cX11_image 15 = .ok (.getfield 7, 3) := by decide +kernel
theorem dX11_image_18 : decode cX11_image 18 = .ok (.iconst 0, 1) := by decide +kernel
theorem dX11_image_19 : decode cX11_image 19 = .ok (.aload_n 0, 1) := by decide +kernel
theorem dX11_image_20 : decode cX11_image 20 = .ok (.getfield 16, 3) := by decide +kernel
theorem dX11_image_23 : decode cX11_image 23 = .ok (.sipush 181, 3) := by decide +kernel
theorem dX11_image_26 : decode cX11_image 26 = .ok (.iload_n 1, 1) := by decide +kernel
theorem dX11_image_27 : decode cX11_image 27 = .ok (.imul, 1) := by decide +kernel
theorem dX11_image_28 : decode cX11_image 28 = .ok (.sipush 181, 3) := by decide +kernel
theorem dX11_image_31 : decode cX11_image 31 = .ok (.invokestatic 135, 3) := by decide +kernel
theorem dX11_image_34 : decode cX11_image 34 = .ok (.aload_n 0, 1) := by decide +kernel
theorem dX11_image_35 : decode cX11_image 35 = .ok (.getfield 19, 3) := by decide +kernel
theorem dX11_image_38 : decode cX11_image 38 = .ok (.iload_n 1, 1) := by decide +kernel
theorem dX11_image_39 : decode cX11_image 39 = .ok (.iconst 1, 1) := by decide +kernel
theorem dX11_image_40 : decode cX11_image 40 = .ok (.bastore, 1) := by decide +kernel
theorem dX11_image_41 : decode cX11_image 41 = .ok (.iconst 1, 1) := by decide +kernel
theorem dX11_image_42 : decode cX11_image 42 = .ok (.ireturn, 1) := by decide +kernel
theorem dX11_from_0 : decode cX11_from 0 = .ok (.iload_n 1, 1) := by decide +kernel
theorem dX11_from_1 : decode cX11_from 1 = .ok (.iconst 0, 1) := by decide +kernel
theorem dX11_from_2 : decode cX11_from 2 = .ok (.iconst 1, 1) := by decide +kernel
theorem dX11_from_3 : decode cX11_from 3 = .ok (.invokestatic 52, 3) := by decide +kernel
theorem dX11_from_6 : decode cX11_from 6 = .ok (.ifCond .ne 8, 3) := by decide +kernel
theorem dX11_from_9 : decode cX11_from 9 = .ok (.aload_n 0, 1) := by decide +kernel
theorem dX11_from_10 : decode cX11_from 10 = .ok (.invokevirtual 60, 3) := by decide +kernel
theorem dX11_from_13 : decode cX11_from 13 = .ok (.ireturn, 1) := by decide +kernel
theorem dX11_from_14 : decode cX11_from 14 = .ok (.aload_n 0, 1) := by decide +kernel
theorem dX11_from_15 : decode cX11_from 15 = .ok (.getfield 19, 3) := by decide +kernel
theorem dX11_from_18 : decode cX11_from 18 = .ok (.iload_n 1, 1) := by decide +kernel
theorem dX11_from_19 : decode cX11_from 19 = .ok (.baload, 1) := by decide +kernel
theorem dX11_from_20 : decode cX11_from 20 = .ok (.ifCond .ne 8, 3) := by decide +kernel
theorem dX11_from_23 : decode cX11_from 23 = .ok (.aload_n 0, 1) := by decide +kernel
theorem dX11_from_24 : decode cX11_from 24 = .ok (.invokevirtual 157, 3) := by decide +kernel
theorem dX11_from_27 : decode cX11_from 27 = .ok (.ireturn, 1) := by decide +kernel
theorem dX11_from_28 : decode cX11_from 28 = .ok (.aload_n 0, 1) := by decide +kernel
theorem dX11_from_29 : decode cX11_from 29 = .ok (.getfield 16, 3) := by decide +kernel
theorem dX11_from_32 : decode cX11_from 32 = .ok (.sipush 181, 3) := by decide +kernel
theorem dX11_from_35 : decode cX11_from 35 = .ok (.iload_n 1, 1) := by decide +kernel
theorem dX11_from_36 : decode cX11_from 36 = .ok (.imul, 1) := by decide +kernel
theorem dX11_from_37 : decode cX11_from 37 = .ok (.aload_n 0, 1) := by decide +kernel
theorem dX11_from_38 : decode cX11_from 38 = .ok (.getfield 7, 3) := by decide +kernel
theorem dX11_from_41 : decode cX11_from 41 = .ok (.iconst 0, 1) := by decide +kernel
theorem dX11_from_42 : decode cX11_from 42 = .ok (.sipush 181, 3) := by decide +kernel
theorem dX11_from_45 : decode cX11_from 45 = .ok (.invokestatic 135, 3) := by decide +kernel
theorem dX11_from_48 : decode cX11_from 48 = .ok (.iconst 1, 1) := by decide +kernel
theorem dX11_from_49 : decode cX11_from 49 = .ok (.ireturn, 1) := by decide +kernel
theorem dX11_status_0 : decode cX11_status 0 = .ok (.iload_n 1, 1) := by decide +kernel
theorem dX11_status_1 : decode cX11_status 1 = .ok (.iconst 0, 1) := by decide +kernel
theorem dX11_status_2 : decode cX11_status 2 = .ok (.iconst 2, 1) := by decide +kernel
theorem dX11_status_3 : decode cX11_status 3 = .ok (.invokestatic 52, 3) := by decide +kernel
theorem dX11_status_6 : decode cX11_status 6 = .ok (.ifCond .ne 15, 3) := by decide +kernel
theorem dX11_status_9 : decode cX11_status 9 = .ok (.aload_n 0, 1) := by decide +kernel
theorem dX11_status_10 : decode cX11_status 10 = .ok (.getfield 23, 3) := by decide +kernel
theorem dX11_status_13 : decode cX11_status 13 = .ok (.iconst 0, 1) := by decide +kernel
theorem dX11_status_14 : decode cX11_status 14 = .ok (.dup2, 1) := by decide +kernel
theorem dX11_status_15 : decode cX11_status 15 = .ok (.iaload, 1) := by decide +kernel
theorem dX11_status_16 : decode cX11_status 16 = .ok (.iconst 1, 1) := by decide +kernel
theorem dX11_status_17 : decode cX11_status 17 = .ok (.iadd, 1) := by decide +kernel
theorem dX11_status_18 : decode cX11_status 18 = .ok (.iastore, 1) := by decide +kernel
theorem dX11_status_19 : decode cX11_status 19 = .ok (.iconst (-1), 1) := by decide +kernel
theorem dX11_status_20 : decode cX11_status 20 = .ok (.ireturn, 1) := by decide +kernel
theorem dX11_status_21 : decode cX11_status 21 = .ok (.aload_n 0, 1) := by decide +kernel
theorem dX11_status_22 : decode cX11_status 22 = .ok (.getfield 23, 3) := by decide +kernel
theorem dX11_status_25 : decode cX11_status 25 = .ok (.iload_n 1, 1) := by decide +kernel
theorem dX11_status_26 : decode cX11_status 26 = .ok (.iaload, 1) := by decide +kernel
theorem dX11_status_27 : decode cX11_status 27 = .ok (.ireturn, 1) := by decide +kernel
theorem dX11_counted_0 : decode cX11_counted 0 = .ok (.iload_n 1, 1) := by decide +kernel
theorem dX11_counted_1 : decode cX11_counted 1 = .ok (.tableswitch 102 0 6 #[43, 51, 59, 67, 75, 86, 94], 43) := by decide +kernel
theorem dX11_counted_44 : decode cX11_counted 44 = .ok (.aload_n 0, 1) := by decide +kernel
theorem dX11_counted_45 : decode cX11_counted 45 = .ok (.getfield 7, 3) := by decide +kernel
theorem dX11_counted_48 : decode cX11_counted 48 = .ok (.bipush 64, 2) := by decide +kernel
theorem dX11_counted_50 : decode cX11_counted 50 = .ok (.iaload, 1) := by decide +kernel
theorem dX11_counted_51 : decode cX11_counted 51 = .ok (.ireturn, 1) := by decide +kernel
theorem dX11_counted_52 : decode cX11_counted 52 = .ok (.aload_n 0, 1) := by decide +kernel
theorem dX11_counted_53 : decode cX11_counted 53 = .ok (.getfield 7, 3) := by decide +kernel
theorem dX11_counted_56 : decode cX11_counted 56 = .ok (.bipush 90, 2) := by decide +kernel
theorem dX11_counted_58 : decode cX11_counted 58 = .ok (.iaload, 1) := by decide +kernel
theorem dX11_counted_59 : decode cX11_counted 59 = .ok (.ireturn, 1) := by decide +kernel
theorem dX11_counted_60 : decode cX11_counted 60 = .ok (.aload_n 0, 1) := by decide +kernel
theorem dX11_counted_61 : decode cX11_counted 61 = .ok (.getfield 7, 3) := by decide +kernel
theorem dX11_counted_64 : decode cX11_counted 64 = .ok (.bipush 91, 2) := by decide +kernel
theorem dX11_counted_66 : decode cX11_counted 66 = .ok (.iaload, 1) := by decide +kernel
theorem dX11_counted_67 : decode cX11_counted 67 = .ok (.ireturn, 1) := by decide +kernel
theorem dX11_counted_68 : decode cX11_counted 68 = .ok (.aload_n 0, 1) := by decide +kernel
theorem dX11_counted_69 : decode cX11_counted 69 = .ok (.getfield 7, 3) := by decide +kernel
theorem dX11_counted_72 : decode cX11_counted 72 = .ok (.bipush 92, 2) := by decide +kernel
theorem dX11_counted_74 : decode cX11_counted 74 = .ok (.iaload, 1) := by decide +kernel
theorem dX11_counted_75 : decode cX11_counted 75 = .ok (.ireturn, 1) := by decide +kernel
theorem dX11_counted_76 : decode cX11_counted 76 = .ok (.aload_n 0, 1) := by decide +kernel
