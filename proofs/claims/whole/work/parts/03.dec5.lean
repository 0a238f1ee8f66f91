theorem dX6_spare_10 : decode cX6_spare 10 = .ok (.iload_n 2, 1) := by decide +kernel
theorem dX6_spare_11 : decode cX6_spare 11 = .ok (.iconst 0, 1) := by decide +kernel
theorem dX6_spare_12 : decode cX6_spare 12 = .ok (.iconst 1, 1) := by decide +kernel
theorem dX6_spare_13 : decode cX6_spare 13 = .ok (.invokestatic 38, 3) := by decide +kernel
theorem dX6_spare_16 : decode cX6_spare 16 = .ok (.ifCond .ne 5, 3) := by decide +kernel
theorem dX6_spare_19 : decode cX6_spare 19 = .ok (.iconst (-1), 1) := by decide +kernel
theorem dX6_spare_20 : decode cX6_spare 20 = .ok (.ireturn, 1) := by decide +kernel
theorem dX6_spare_21 : decode cX6_spare 21 = .ok (.bipush (-4), 2) := by decide +kernel
theorem dX6_spare_23 : decode cX6_spare 23 = .ok (.istore_n 3, 1) := by decide +kernel
theorem dX6_spare_24 : decode cX6_spare 24 = .ok (.bipush (-4), 2) := by decide +kernel
theorem dX6_spare_26 : decode cX6_spare 26 = .ok (.istore 4, 2) := by decide +kernel
theorem dX6_spare_28 : decode cX6_spare 28 = .ok (.iconst 0, 1) := by decide +kernel
theorem dX6_spare_29 : decode cX6_spare 29 = .ok (.istore 5, 2) := by decide +kernel
theorem dX6_spare_31 : decode cX6_spare 31 = .ok (.iload 5, 2) := by decide +kernel
theorem dX6_spare_33 : decode cX6_spare 33 = .ok (.aload_n 0, 1) := by decide +kernel
theorem dX6_spare_34 : decode cX6_spare 34 = .ok (.getfield 23, 3) := by decide +kernel
theorem dX6_spare_37 : decode cX6_spare 37 = .ok (.bipush 30, 2) := by decide +kernel
theorem dX6_spare_39 : decode cX6_spare 39 = .ok (.iaload, 1) := by decide +kernel
theorem dX6_spare_40 : decode cX6_spare 40 = .ok (.if_icmp .ge 58, 3) := by decide +kernel
theorem dX6_spare_43 : decode cX6_spare 43 = .ok (.aload_n 0, 1) := by decide +kernel
theorem dX6_spare_44 : decode cX6_spare 44 = .ok (.invokevirtual 141, 3) := by decide +kernel
theorem dX6_spare_47 : decode cX6_spare 47 = .ok (.aload_n 0, 1) := by decide +kernel
theorem dX6_spare_48 : decode cX6_spare 48 = .ok (.iload_n 1, 1) := by decide +kernel
theorem dX6_spare_49 : decode cX6_spare 49 = .ok (.iconst 1, 1) := by decide +kernel
theorem dX6_spare_50 : decode cX6_spare 50 = .ok (.iload 5, 2) := by decide +kernel
theorem dX6_spare_52 : decode cX6_spare 52 = .ok (.ishl, 1) := by decide +kernel
theorem dX6_spare_53 : decode cX6_spare 53 = .ok (.invokevirtual 144, 3) := by decide +kernel
theorem dX6_spare_56 : decode cX6_spare 56 = .ok (.iload_n 3, 1) := by decide +kernel
theorem dX6_spare_57 : decode cX6_spare 57 = .ok (.bipush (-4), 2) := by decide +kernel
theorem dX6_spare_59 : decode cX6_spare 59 = .ok (.if_icmp .eq 18, 3) := by decide +kernel
theorem dX6_spare_62 : decode cX6_spare 62 = .ok (.aload_n 0, 1) := by decide +kernel
theorem dX6_spare_63 : decode cX6_spare 63 = .ok (.getfield 26, 3) := by decide +kernel
theorem dX6_spare_66 : decode cX6_spare 66 = .ok (.bipush 21, 2) := by decide +kernel
theorem dX6_spare_68 : decode cX6_spare 68 = .ok (.iaload, 1) := by decide +kernel
theorem dX6_spare_69 : decode cX6_spare 69 = .ok (.invokestatic 152, 3) := by decide +kernel
theorem dX6_spare_72 : decode cX6_spare 72 = .ok (.iload 4, 2) := by decide +kernel
theorem dX6_spare_74 : decode cX6_spare 74 = .ok (.if_icmp .le 18, 3) := by decide +kernel
theorem dX6_spare_77 : decode cX6_spare 77 = .ok (.iload 5, 2) := by decide +kernel
theorem dX6_spare_79 : decode cX6_spare 79 = .ok (.istore_n 3, 1) := by decide +kernel
theorem dX6_spare_80 : decode cX6_spare 80 = .ok (.aload_n 0, 1) := by decide +kernel
theorem dX6_spare_81 : decode cX6_spare 81 = .ok (.getfield 26, 3) := by decide +kernel
theorem dX6_spare_84 : decode cX6_spare 84 = .ok (.bipush 21, 2) := by decide +kernel
theorem dX6_spare_86 : decode cX6_spare 86 = .ok (.iaload, 1) := by decide +kernel
theorem dX6_spare_87 : decode cX6_spare 87 = .ok (.invokestatic 152, 3) := by decide +kernel
theorem dX6_spare_90 : decode cX6_spare 90 = .ok (.istore 4, 2) := by decide +kernel
theorem dX6_spare_92 : decode cX6_spare 92 = .ok (.iinc 5 1, 3) := by decide +kernel
theorem dX6_spare_95 : decode cX6_spare 95 = .ok (.goto (-64), 3) := by decide +kernel
theorem dX6_spare_98 : decode cX6_spare 98 = .ok (.iload_n 2, 1) := by decide +kernel
theorem dX6_spare_99 : decode cX6_spare 99 = .ok (.ifCond .ne 7, 3) := by decide +kernel
theorem dX6_spare_102 : decode cX6_spare 102 = .ok (.iload_n 3, 1) := by decide +kernel
theorem dX6_spare_103 : decode cX6_spare 103 = .ok (.goto 5, 3) := by decide +kernel
theorem dX6_spare_106 : decode cX6_spare 106 = .ok (.iload 4, 2) := by decide +kernel
theorem dX6_spare_108 : decode cX6_spare 108 = .ok (.ireturn, 1) := by decide +kernel
theorem dX6_match_0 : decode cX6_match 0 = .ok (.iconst 0, 1) := by decide +kernel
theorem dX6_match_1 : decode cX6_match 1 = .ok (.istore_n 1, 1) := by decide +kernel
theorem dX6_match_2 : decode cX6_match 2 = .ok (.iconst 0, 1) := by decide +kernel
theorem dX6_match_3 : decode cX6_match 3 = .ok (.istore_n 2, 1) := by decide +kernel
theorem dX6_match_4 : decode cX6_match 4 = .ok (.iload_n 2, 1) := by decide +kernel
theorem dX6_match_5 : decode cX6_match 5 = .ok (.sipush 2401, 3) := by decide +kernel
theorem dX6_match_8 : decode cX6_match 8 = .ok (.if_icmp .ge 137, 3) := by decide +kernel
theorem dX6_match_11 : decode cX6_match 11 = .ok (.iload_n 2, 1) := by decide +kernel
theorem dX6_match_12 : decode cX6_match 12 = .ok (.istore_n 3, 1) := by decide +kernel
theorem dX6_match_13 : decode cX6_match 13 = .ok (.iconst 0, 1) := by decide +kernel
theorem dX6_match_14 : decode cX6_match 14 = .ok (.istore 4, 2) := by decide +kernel
theorem dX6_match_16 : decode cX6_match 16 = .ok (.iconst 1, 1) := by decide +kernel
theorem dX6_match_17 : decode cX6_match 17 = .ok (.istore 5, 2) := by decide +kernel
theorem dX6_match_19 : decode cX6_match 19 = .ok (.iconst 0, 1) := by decide +kernel
theorem dX6_match_20 : decode cX6_match 20 = .ok (.istore 6, 2) := by decide +kernel
theorem dX6_match_22 : decode cX6_match 22 = .ok (.iload 6, 2) := by decide +kernel
theorem dX6_match_24 : decode cX6_match 24 = .ok (.iconst 4, 1) := by decide +kernel
theorem dX6_match_25 : decode cX6_match 25 = .ok (.if_icmp .ge 90, 3) := by decide +kernel
theorem dX6_match_28 : decode cX6_match 28 = .ok (.iload_n 3, 1) := by decide +kernel
theorem dX6_match_29 : decode cX6_match 29 = .ok (.bipush 7, 2) := by decide +kernel
theorem dX6_match_31 : decode cX6_match 31 = .ok (.irem, 1) := by decide +kernel
theorem dX6_match_32 : decode cX6_match 32 = .ok (.istore 7, 2) := by decide +kernel
theorem dX6_match_34 : decode cX6_match 34 = .ok (.iload_n 3, 1) := by decide +kernel
theorem dX6_match_35 : decode cX6_match 35 = .ok (.bipush 7, 2) := by decide +kernel
theorem dX6_match_37 : decode cX6_match 37 = .ok (.idiv, 1) := by decide +kernel
theorem dX6_match_38 : decode cX6_match 38 = .ok (.istore_n 3, 1) := by decide +kernel
theorem dX6_match_39 : decode cX6_match 39 = .ok (.iload 7, 2) := by decide +kernel
theorem dX6_match_41 : decode cX6_match 41 = .ok (.bipush 6, 2) := by decide +kernel
theorem dX6_match_43 : decode cX6_match 43 = .ok (.if_icmp .ge 66, 3) := by decide +kernel
theorem dX6_match_46 : decode cX6_match 46 = .ok (.iload 5, 2) := by decide +kernel
theorem dX6_match_48 : decode cX6_match 48 = .ok (.ifCond .eq 49, 3) := by decide +kernel
theorem dX6_match_51 : decode cX6_match 51 = .ok (.aload_n 0, 1) := by decide +kernel
theorem dX6_match_52 : decode cX6_match 52 = .ok (.iload 6, 2) := by decide +kernel
theorem dX6_match_54 : decode cX6_match 54 = .ok (.invokevirtual 66, 3) := by decide +kernel
theorem dX6_match_57 : decode cX6_match 57 = .ok (.ifCond .eq 40, 3) := by decide +kernel
theorem dX6_match_60 : decode cX6_match 60 = .ok (.aload_n 0, 1) := by decide +kernel
theorem dX6_match_61 : decode cX6_match 61 = .ok (.iload 7, 2) := by decide +kernel
theorem dX6_match_63 : decode cX6_match 63 = .ok (.invokevirtual 58, 3) := by decide +kernel
theorem dX6_match_66 : decode cX6_match 66 = .ok (.ifCond .eq 31, 3) := by decide +kernel
theorem dX6_match_69 : decode cX6_match 69 = .ok (.iload 4, 2) := by decide +kernel
theorem dX6_match_71 : decode cX6_match 71 = .ok (.iload 7, 2) := by decide +kernel
theorem dX6_match_73 : decode cX6_match 73 = .ok (.invokestatic 50, 3) := by decide +kernel
theorem dX6_match_76 : decode cX6_match 76 = .ok (.ifCond .ne 21, 3) := by decide +kernel
theorem dX6_match_79 : decode cX6_match 79 = .ok (.aload_n 0, 1) := by decide +kernel
theorem dX6_match_80 : decode cX6_match 80 = .ok (.getfield 23, 3) := by decide +kernel
theorem dX6_match_83 : decode cX6_match 83 = .ok (.iload 6, 2) := by decide +kernel
theorem dX6_match_85 : decode cX6_match 85 = .ok (.iload 7, 2) := by decide +kernel
theorem dX6_match_87 : decode cX6_match 87 = .ok (.invokestatic 54, 3) := by decide +kernel
theorem dX6_match_90 : decode cX6_match 90 = .ok (.ifCond .eq 7, 3) := by decide +kernel
theorem dX6_match_93 : decode cX6_match 93 = .ok (.iconst 1, 1) := by decide +kernel
theorem dX6_match_94 : decode cX6_match 94 = .ok (.goto 4, 3) := by decide +kernel
theorem dX6_match_97 : decode cX6_match 97 = .ok (.iconst 0, 1) := by decide +kernel
theorem dX6_match_98 : decode cX6_match 98 = .ok (.istore 5, 2) := by decide +kernel
theorem dX6_match_100 : decode cX6_match 100 = .ok (.iload 4, 2) := by decide +kernel
theorem dX6_match_102 : decode cX6_match 102 = .ok (.iconst 1, 1) := by decide +kernel
theorem dX6_match_103 : decode cX6_match 103 = .ok (.iload 7, 2) := by decide +kernel
theorem dX6_match_105 : decode cX6_match 105 = .ok (.ishl, 1) := by decide +kernel
theorem dX6_match_106 : decode cX6_match 106 = .ok (.ior, 1) := by decide +kernel
theorem dX6_match_107 : decode cX6_match 107 = .ok (.istore 4, 2) := by decide +kernel
theorem dX6_match_109 : decode cX6_match 109 = .ok (.iinc 6 1, 3) := by decide +kernel
theorem dX6_match_112 : decode cX6_match 112 = .ok (.goto (-90), 3) := by decide +kernel
theorem dX6_match_115 : decode cX6_match 115 = .ok (.iload 5, 2) := by decide +kernel
theorem dX6_match_117 : decode cX6_match 117 = .ok (.ifCond .eq 20, 3) := by decide +kernel
theorem dX6_match_120 : decode cX6_match 120 = .ok (.iload 4, 2) := by decide +kernel
theorem dX6_match_122 : decode cX6_match 122 = .ok (.invokestatic 152, 3) := by decide +kernel
theorem dX6_match_125 : decode cX6_match 125 = .ok (.iload_n 1, 1) := by decide +kernel
theorem dX6_match_126 : decode cX6_match 126 = .ok (.if_icmp .le 11, 3) := by decide +kernel
theorem dX6_match_129 : decode cX6_match 129 = .ok (.iload 4, 2) := by decide +kernel
theorem dX6_match_131 : decode cX6_match 131 = .ok (.invokestatic 152, 3) := by decide +kernel
theorem dX6_match_134 : decode cX6_match 134 = .ok (.goto 4, 3) := by decide +kernel
theorem dX6_match_137 : decode cX6_match 137 = .ok (.iload_n 1, 1) := by decide +kernel
theorem dX6_match_138 : decode cX6_match 138 = .ok (.istore_n 1, 1) := by decide +kernel
theorem dX6_match_139 : decode cX6_match 139 = .ok (.iinc 2 1, 3) := by decide +kernel
theorem dX6_match_142 : decode cX6_match 142 = .ok (.goto (-138), 3) := by decide +kernel
theorem dX6_match_145 : decode cX6_match 145 = .ok (.iload_n 1, 1) := by decide +kernel
theorem dX6_match_146 : decode cX6_match 146 = .ok (.ireturn, 1) := by decide +kernel
theorem dX6_care_0 : decode cX6_care 0 = .ok (.aload_n 0, 1) := by decide +kernel
theorem dX6_care_1 : decode cX6_care 1 = .ok (.iload_n 1, 1) := by decide +kernel
theorem dX6_care_2 : decode cX6_care 2 = .ok (.invokevirtual 58, 3) := by decide +kernel
theorem dX6_care_5 : decode cX6_care 5 = .ok (.ifCond .eq 13, 3) := by decide +kernel
theorem dX6_care_8 : decode cX6_care 8 = .ok (.iload_n 2, 1) := by decide +kernel
theorem dX6_care_9 : decode cX6_care 9 = .ok (.iconst 1, 1) := by decide +kernel
theorem dX6_care_10 : decode cX6_care 10 = .ok (.bipush 40, 2) := by decide +kernel
theorem dX6_care_12 : decode cX6_care 12 = .ok (.invokestatic 38, 3) := by decide +kernel
theorem dX6_care_15 : decode cX6_care 15 = .ok (.ifCond .ne 5, 3) := by decide +kernel
theorem dX6_care_18 : decode cX6_care 18 = .ok (.iconst (-1), 1) := by decide +kernel
theorem dX6_care_19 : decode cX6_care 19 = .ok (.ireturn, 1) := by decide +kernel
theorem dX6_care_20 : decode cX6_care 20 = .ok (.bipush 9, 2) := by decide +kernel
theorem dX6_care_22 : decode cX6_care 22 = .ok (.istore_n 3, 1) := by decide +kernel
theorem dX6_care_23 : decode cX6_care 23 = .ok (.iload_n 3, 1) := by decide +kernel
theorem dX6_care_24 : decode cX6_care 24 = .ok (.ifCond .lt 45, 3) := by decide +kernel
theorem dX6_care_27 : decode cX6_care 27 = .ok (.aload_n 0, 1) := by decide +kernel
theorem dX6_care_28 : decode cX6_care 28 = .ok (.invokevirtual 141, 3) := by decide +kernel
theorem dX6_care_31 : decode cX6_care 31 = .ok (.aload_n 0, 1) := by decide +kernel
theorem dX6_care_32 : decode cX6_care 32 = .ok (.getfield 26, 3) := by decide +kernel
theorem dX6_care_35 : decode cX6_care 35 = .ok (.bipush 14, 2) := by decide +kernel
theorem dX6_care_37 : decode cX6_care 37 = .ok (.iload_n 1, 1) := by decide +kernel
theorem dX6_care_38 : decode cX6_care 38 = .ok (.iadd, 1) := by decide +kernel
theorem dX6_care_39 : decode cX6_care 39 = .ok (.iload_n 3, 1) := by decide +kernel
theorem dX6_care_40 : decode cX6_care 40 = .ok (.iastore, 1) := by decide +kernel
theorem dX6_care_41 : decode cX6_care 41 = .ok (.aload_n 0, 1) := by decide +kernel
theorem dX6_care_42 : decode cX6_care 42 = .ok (.iload_n 2, 1) := by decide +kernel
theorem dX6_care_43 : decode cX6_care 43 = .ok (.iconst 0, 1) := by decide +kernel
theorem dX6_care_44 : decode cX6_care 44 = .ok (.invokevirtual 144, 3) := by decide +kernel
theorem dX6_care_47 : decode cX6_care 47 = .ok (.aload_n 0, 1) := by decide +kernel
theorem dX6_care_48 : decode cX6_care 48 = .ok (.getfield 26, 3) := by decide +kernel
theorem dX6_care_51 : decode cX6_care 51 = .ok (.bipush 21, 2) := by decide +kernel
theorem dX6_care_53 : decode cX6_care 53 = .ok (.iaload, 1) := by decide +kernel
theorem dX6_care_54 : decode cX6_care 54 = .ok (.iload_n 1, 1) := by decide +kernel
theorem dX6_care_55 : decode cX6_care 55 = .ok (.invokestatic 50, 3) := by decide +kernel
theorem dX6_care_58 : decode cX6_care 58 = .ok (.ifCond .eq 5, 3) := by decide +kernel
theorem dX6_care_61 : decode cX6_care 61 = .ok (.iload_n 3, 1) := by decide +kernel
theorem dX6_care_62 : decode cX6_care 62 = .ok (.ireturn, 1) := by decide +kernel
theorem dX6_care_63 : decode cX6_care 63 = .ok (.iinc 3 (-1), 3) := by decide +kernel
theorem dX6_care_66 : decode cX6_care 66 = .ok (.goto (-43), 3) := by decide +kernel
theorem dX6_care_69 : decode cX6_care 69 = .ok (.bipush (-4), 2) := by decide +kernel
theorem dX6_care_71 : decode cX6_care 71 = .ok (.ireturn, 1) := by decide +kernel
theorem dX6_leave_0 : decode cX6_leave 0 = .ok (.aload_n 0, 1) := by decide +kernel
theorem dX6_leave_1 : decode cX6_leave 1 = .ok (.iload_n 1, 1) := by decide +kernel
theorem dX6_leave_2 : decode cX6_leave 2 = .ok (.invokevirtual 58, 3) := by decide +kernel
theorem dX6_leave_5 : decode cX6_leave 5 = .ok (.ifCond .eq 22, 3) := by decide +kernel
theorem dX6_leave_8 : decode cX6_leave 8 = .ok (.iload_n 2, 1) := by decide +kernel
theorem dX6_leave_9 : decode cX6_leave 9 = .ok (.iconst 0, 1) := by decide +kernel
theorem dX6_leave_10 : decode cX6_leave 10 = .ok (.bipush 10, 2) := by decide +kernel
theorem dX6_leave_12 : decode cX6_leave 12 = .ok (.invokestatic 38, 3) := by decide +kernel
theorem dX6_leave_15 : decode cX6_leave 15 = .ok (.ifCond .eq 12, 3) := by decide +kernel
theorem dX6_leave_18 : decode cX6_leave 18 = .ok (.iload_n 3, 1) := by decide +kernel
theorem dX6_leave_19 : decode cX6_leave 19 = .ok (.iconst 0, 1) := by decide +kernel
theorem dX6_leave_20 : decode cX6_leave 20 = .ok (.iconst 1, 1) := by decide +kernel
theorem dX6_leave_21 : decode cX6_leave 21 = .ok (.invokestatic 38, 3) := by decide +kernel
theorem dX6_leave_24 : decode cX6_leave 24 = .ok (.ifCond .ne 5, 3) := by decide +kernel
theorem dX6_leave_27 : decode cX6_leave 27 = .ok (.iconst (-1), 1) := by decide +kernel
theorem dX6_leave_28 : decode cX6_leave 28 = .ok (.ireturn, 1) := by decide +kernel
theorem dX6_leave_29 : decode cX6_leave 29 = .ok (.iconst 0, 1) := by decide +kernel
theorem dX6_leave_30 : decode cX6_leave 30 = .ok (.istore 4, 2) := by decide +kernel
theorem dX6_leave_32 : decode cX6_leave 32 = .ok (.iconst 1, 1) := by decide +kernel
theorem dX6_leave_33 : decode cX6_leave 33 = .ok (.istore 5, 2) := by decide +kernel
theorem dX6_leave_35 : decode cX6_leave 35 = .ok (.iconst 0, 1) := by decide +kernel
theorem dX6_leave_36 : decode cX6_leave 36 = .ok (.istore 6, 2) := by decide +kernel
theorem dX6_leave_38 : decode cX6_leave 38 = .ok (.iload 6, 2) := by decide +kernel
theorem dX6_leave_40 : decode cX6_leave 40 = .ok (.aload_n 0, 1) := by decide +kernel
theorem dX6_leave_41 : decode cX6_leave 41 = .ok (.getfield 23, 3) := by decide +kernel
theorem dX6_leave_44 : decode cX6_leave 44 = .ok (.bipush 30, 2) := by decide +kernel
theorem dX6_leave_46 : decode cX6_leave 46 = .ok (.iaload, 1) := by decide +kernel
theorem dX6_leave_47 : decode cX6_leave 47 = .ok (.if_icmp .ge 16, 3) := by decide +kernel
theorem dX6_leave_50 : decode cX6_leave 50 = .ok (.iload 5, 2) := by decide +kernel
theorem dX6_leave_52 : decode cX6_leave 52 = .ok (.bipush 10, 2) := by decide +kernel
theorem dX6_leave_54 : decode cX6_leave 54 = .ok (.imul, 1) := by decide +kernel
theorem dX6_leave_55 : decode cX6_leave 55 = .ok (.istore 5, 2) := by decide +kernel
theorem dX6_leave_57 : decode cX6_leave 57 = .ok (.iinc 6 1, 3) := by decide +kernel
theorem dX6_leave_60 : decode cX6_leave 60 = .ok (.goto (-22), 3) := by decide +kernel
theorem dX6_leave_63 : decode cX6_leave 63 = .ok (.iconst 0, 1) := by decide +kernel
theorem dX6_leave_64 : decode cX6_leave 64 = .ok (.istore 6, 2) := by decide +kernel
theorem dX6_leave_66 : decode cX6_leave 66 = .ok (.iload 6, 2) := by decide +kernel
theorem dX6_leave_68 : decode cX6_leave 68 = .ok (.iconst 1, 1) := by decide +kernel
theorem dX6_leave_69 : decode cX6_leave 69 = .ok (.aload_n 0, 1) := by decide +kernel
theorem dX6_leave_70 : decode cX6_leave 70 = .ok (.getfield 23, 3) := by decide +kernel
theorem dX6_leave_73 : decode cX6_leave 73 = .ok (.bipush 30, 2) := by decide +kernel
theorem dX6_leave_75 : decode cX6_leave 75 = .ok (.iaload, 1) := by decide +kernel
theorem dX6_leave_76 : decode cX6_leave 76 = .ok (.ishl, 1) := by decide +kernel
theorem dX6_leave_77 : decode cX6_leave 77 = .ok (.if_icmp .ge 88, 3) := by decide +kernel
theorem dX6_leave_80 : decode cX6_leave 80 = .ok (.iconst 1, 1) := by decide +kernel
theorem dX6_leave_81 : decode cX6_leave 81 = .ok (.istore 7, 2) := by decide +kernel
theorem dX6_leave_83 : decode cX6_leave 83 = .ok (.iconst 0, 1) := by decide +kernel
theorem dX6_leave_84 : decode cX6_leave 84 = .ok (.istore 8, 2) := by decide +kernel
theorem dX6_leave_86 : decode cX6_leave 86 = .ok (.iload 8, 2) := by decide +kernel
theorem dX6_leave_88 : decode cX6_leave 88 = .ok (.aload_n 0, 1) := by decide +kernel
theorem dX6_leave_89 : decode cX6_leave 89 = .ok (.getfield 23, 3) := by decide +kernel
theorem dX6_leave_92 : decode cX6_leave 92 = .ok (.bipush 30, 2) := by decide +kernel
theorem dX6_leave_94 : decode cX6_leave 94 = .ok (.iaload, 1) := by decide +kernel
theorem dX6_leave_95 : decode cX6_leave 95 = .ok (.if_icmp .ge 32, 3) := by decide +kernel
theorem dX6_leave_98 : decode cX6_leave 98 = .ok (.iload 7, 2) := by decide +kernel
theorem dX6_leave_100 : decode cX6_leave 100 = .ok (.iload 6, 2) := by decide +kernel
theorem dX6_leave_102 : decode cX6_leave 102 = .ok (.iload 8, 2) := by decide +kernel
theorem dX6_leave_104 : decode cX6_leave 104 = .ok (.invokestatic 50, 3) := by decide +kernel
theorem dX6_leave_107 : decode cX6_leave 107 = .ok (.ifCond .eq 7, 3) := by decide +kernel
theorem dX6_leave_110 : decode cX6_leave 110 = .ok (.iload_n 2, 1) := by decide +kernel
theorem dX6_leave_111 : decode cX6_leave 111 = .ok (.goto 7, 3) := by decide +kernel
theorem dX6_leave_114 : decode cX6_leave 114 = .ok (.bipush 10, 2) := by decide +kernel
theorem dX6_leave_116 : decode cX6_leave 116 = .ok (.iload_n 2, 1) := by decide +kernel
theorem dX6_leave_117 : decode cX6_leave 117 = .ok (.isub, 1) := by decide +kernel
theorem dX6_leave_118 : decode cX6_leave 118 = .ok (.imul, 1) := by decide +kernel
theorem dX6_leave_119 : decode cX6_leave 119 = .ok (.istore 7, 2) := by decide +kernel
theorem dX6_leave_121 : decode cX6_leave 121 = .ok (.iinc 8 1, 3) := by decide +kernel
theorem dX6_leave_124 : decode cX6_leave 124 = .ok (.goto (-38), 3) := by decide +kernel
theorem dX6_leave_127 : decode cX6_leave 127 = .ok (.aload_n 0, 1) := by decide +kernel
theorem dX6_leave_128 : decode cX6_leave 128 = .ok (.invokevirtual 141, 3) := by decide +kernel
theorem dX6_leave_131 : decode cX6_leave 131 = .ok (.iload 4, 2) := by decide +kernel
theorem dX6_leave_133 : decode cX6_leave 133 = .ok (.aload_n 0, 1) := by decide +kernel
theorem dX6_leave_134 : decode cX6_leave 134 = .ok (.aload_n 0, 1) := by decide +kernel
theorem dX6_leave_135 : decode cX6_leave 135 = .ok (.getfield 26, 3) := by decide +kernel
theorem dX6_leave_138 : decode cX6_leave 138 = .ok (.iload 6, 2) := by decide +kernel
theorem dX6_leave_140 : decode cX6_leave 140 = .ok (.invokevirtual 115, 3) := by decide +kernel
theorem dX6_leave_143 : decode cX6_leave 143 = .ok (.iload_n 1, 1) := by decide +kernel
theorem dX6_leave_144 : decode cX6_leave 144 = .ok (.invokestatic 50, 3) := by decide +kernel
theorem dX6_leave_147 : decode cX6_leave 147 = .ok (.ifCond .eq 8, 3) := by decide +kernel
theorem dX6_leave_150 : decode cX6_leave 150 = .ok (.iload 7, 2) := by decide +kernel
theorem dX6_leave_152 : decode cX6_leave 152 = .ok (.goto 4, 3) := by decide +kernel
theorem dX6_leave_155 : decode cX6_leave 155 = .ok (.iconst 0, 1) := by decide +kernel
theorem dX6_leave_156 : decode cX6_leave 156 = .ok (.iadd, 1) := by decide +kernel
theorem dX6_leave_157 : decode cX6_leave 157 = .ok (.istore 4, 2) := by decide +kernel
theorem dX6_leave_159 : decode cX6_leave 159 = .ok (.iinc 6 1, 3) := by decide +kernel
theorem dX6_leave_162 : decode cX6_leave 162 = .ok (.goto (-96), 3) := by decide +kernel
theorem dX6_leave_165 : decode cX6_leave 165 = .ok (.iload 4, 2) := by decide +kernel
theorem dX6_leave_167 : decode cX6_leave 167 = .ok (.istore 6, 2) := by decide +kernel
theorem dX6_leave_169 : decode cX6_leave 169 = .ok (.iload 5, 2) := by decide +kernel
theorem dX6_leave_171 : decode cX6_leave 171 = .ok (.istore 7, 2) := by decide +kernel
theorem dX6_leave_173 : decode cX6_leave 173 = .ok (.iload 7, 2) := by decide +kernel
theorem dX6_leave_175 : decode cX6_leave 175 = .ok (.ifCond .le 21, 3) := by decide +kernel
theorem dX6_leave_178 : decode cX6_leave 178 = .ok (.iload 6, 2) := by decide +kernel
theorem dX6_leave_180 : decode cX6_leave 180 = .ok (.iload 7, 2) := by decide +kernel
theorem dX6_leave_182 : decode cX6_leave 182 = .ok (.irem, 1) := by decide +kernel
theorem dX6_leave_183 : decode cX6_leave 183 = .ok (.istore 8, 2) := by decide +kernel
theorem dX6_leave_185 : decode cX6_leave 185 = .ok (.iload 7, 2) := by decide +kernel
theorem dX6_leave_187 : decode cX6_leave 187 = .ok (.istore 6, 2) := by decide +kernel
theorem dX6_leave_189 : decode cX6_leave 189 = .ok (.iload 8, 2) := by decide +kernel
theorem dX6_leave_191 : decode cX6_leave 191 = .ok (.istore 7, 2) := by decide +kernel
theorem dX6_leave_193 : decode cX6_leave 193 = .ok (.goto (-20), 3) := by decide +kernel
theorem dX6_leave_196 : decode cX6_leave 196 = .ok (.iload_n 3, 1) := by decide +kernel
theorem dX6_leave_197 : decode cX6_leave 197 = .ok (.ifCond .ne 8, 3) := by decide +kernel
theorem dX6_leave_200 : decode cX6_leave 200 = .ok (.iload 4, 2) := by decide +kernel
theorem dX6_leave_202 : decode cX6_leave 202 = .ok (.goto 5, 3) := by decide +kernel
theorem dX6_leave_205 : decode cX6_leave 205 = .ok (.iload 5, 2) := by decide +kernel
theorem dX6_leave_207 : decode cX6_leave 207 = .ok (.iload 6, 2) := by decide +kernel
theorem dX6_leave_209 : decode cX6_leave 209 = .ok (.idiv, 1) := by decide +kernel
theorem dX6_leave_210 : decode cX6_leave 210 = .ok (.ireturn, 1) := by decide +kernel
theorem dX6_image_0 : decode cX6_image 0 = .ok (.aload_n 0, 1) := by decide +kernel
theorem dX6_image_1 : decode cX6_image 1 = .ok (.getfield 23, 3) := by decide +kernel
theorem dX6_image_4 : decode cX6_image 4 = .ok (.iconst 0, 1) := by decide +kernel
theorem dX6_image_5 : decode cX6_image 5 = .ok (.aload_n 0, 1) := by decide +kernel
theorem dX6_image_6 : decode cX6_image 6 = .ok (.getfield 32, 3) := by decide +kernel
theorem dX6_image_9 : decode cX6_image 9 = .ok (.iconst 0, 1) := by decide +kernel
theorem dX6_image_10 : decode cX6_image 10 = .ok (.sipush 216, 3) := by decide +kernel
theorem dX6_image_13 : decode cX6_image 13 = .ok (.invokestatic 108, 3) := by decide +kernel
theorem dX6_image_16 : decode cX6_image 16 = .ok (.aload_n 0, 1) := by decide +kernel
theorem dX6_image_17 : decode cX6_image 17 = .ok (.iconst 1, 1) := by decide +kernel
theorem dX6_image_18 : decode cX6_image 18 = .ok (.putfield 155, 3) := by decide +kernel
theorem dX6_image_21 : decode cX6_image 21 = .ok (.iconst 1, 1) := by decide +kernel
theorem dX6_image_22 : decode cX6_image 22 = .ok (.ireturn, 1) := by decide +kernel
theorem dX6_restore_0 : decode cX6_restore 0 = .ok (.aload_n 0, 1) := by decide +kernel
theorem dX6_restore_1 : decode cX6_restore 1 = .ok (.getfield 155, 3) := by decide +kernel
theorem dX6_restore_4 : decode cX6_restore 4 = .ok (.ifCond .ne 6, 3) := by decide +kernel
theorem dX6_restore_7 : decode cX6_restore 7 = .ok (.bipush (-4), 2) := by decide +kernel
theorem dX6_restore_9 : decode cX6_restore 9 = .ok (.ireturn, 1) := by decide +kernel
theorem dX6_restore_10 : decode cX6_restore 10 = .ok (.aload_n 0, 1) := by decide +kernel
theorem dX6_restore_11 : decode cX6_restore 11 = .ok (.getfield 32, 3) := by decide +kernel
theorem dX6_restore_14 : decode cX6_restore 14 = .ok (.iconst 0, 1) := by decide +kernel
theorem dX6_restore_15 : decode cX6_restore 15 = .ok (.aload_n 0, 1) := by decide +kernel
theorem dX6_restore_16 : decode cX6_restore 16 = .ok (.getfield 23, 3) := by decide +kernel
theorem dX6_restore_19 : decode cX6_restore 19 = .ok (.iconst 0, 1) := by decide +kernel
theorem dX6_restore_20 : decode cX6_restore 20 = .ok (.sipush 216, 3) := by decide +kernel
theorem dX6_restore_23 : decode cX6_restore 23 = .ok (.invokestatic 108, 3) := by decide +kernel
theorem dX6_restore_26 : decode cX6_restore 26 = .ok (.iconst 1, 1) := by decide +kernel
theorem dX6_restore_27 : decode cX6_restore 27 = .ok (.ireturn, 1) := by decide +kernel
theorem dX6_isSheet_0 : decode cX6_isSheet 0 = .ok (.iload_n 0, 1) := by decide +kernel
theorem dX6_isSheet_1 : decode cX6_isSheet 1 = .ok (.iconst 0, 1) := by decide +kernel
theorem dX6_isSheet_2 : decode cX6_isSheet 2 = .ok (.iconst 3, 1) := by decide +kernel
theorem dX6_isSheet_3 : decode cX6_isSheet 3 = .ok (.invokestatic 38, 3) := by decide +kernel
theorem dX6_isSheet_6 : decode cX6_isSheet 6 = .ok (.ireturn, 1) := by decide +kernel
theorem dX6_isPart_0 : decode cX6_isPart 0 = .ok (.iload_n 1, 1) := by decide +kernel
theorem dX6_isPart_1 : decode cX6_isPart 1 = .ok (.ifCond .lt 23, 3) := by decide +kernel
theorem dX6_isPart_4 : decode cX6_isPart 4 = .ok (.iload_n 0, 1) := by decide +kernel
theorem dX6_isPart_5 : decode cX6_isPart 5 = .ok (.ifCond .lt 19, 3) := by decide +kernel
theorem dX6_isPart_8 : decode cX6_isPart 8 = .ok (.iload_n 1, 1) := by decide +kernel
theorem dX6_isPart_9 : decode cX6_isPart 9 = .ok (.iload_n 2, 1) := by decide +kernel
theorem dX6_isPart_10 : decode cX6_isPart 10 = .ok (.if_icmp .gt 14, 3) := by decide +kernel
theorem dX6_isPart_13 : decode cX6_isPart 13 = .ok (.iload_n 0, 1) := by decide +kernel
theorem dX6_isPart_14 : decode cX6_isPart 14 = .ok (.iload_n 2, 1) := by decide +kernel
theorem dX6_isPart_15 : decode cX6_isPart 15 = .ok (.iload_n 1, 1) := by decide +kernel
theorem dX6_isPart_16 : decode cX6_isPart 16 = .ok (.isub, 1) := by decide +kernel
theorem dX6_isPart_17 : decode cX6_isPart 17 = .ok (.if_icmp .gt 7, 3) := by decide +kernel
theorem dX6_isPart_20 : decode cX6_isPart 20 = .ok (.iconst 1, 1) := by decide +kernel
theorem dX6_isPart_21 : decode cX6_isPart 21 = .ok (.goto 4, 3) := by decide +kernel
theorem dX6_isPart_24 : decode cX6_isPart 24 = .ok (.iconst 0, 1) := by decide +kernel
theorem dX6_isPart_25 : decode cX6_isPart 25 = .ok (.ireturn, 1) := by decide +kernel
theorem dX6_wrong_0 : decode cX6_wrong 0 = .ok (.aload_n 0, 1) := by decide +kernel
theorem dX6_wrong_1 : decode cX6_wrong 1 = .ok (.getfield 7, 3) := by decide +kernel
theorem dX6_wrong_4 : decode cX6_wrong 4 = .ok (.iload_n 1, 1) := by decide +kernel
theorem dX6_wrong_5 : decode cX6_wrong 5 = .ok (.iaload, 1) := by decide +kernel
theorem dX6_wrong_6 : decode cX6_wrong 6 = .ok (.ifCond .ge 8, 3) := by decide +kernel
theorem dX6_wrong_9 : decode cX6_wrong 9 = .ok (.bipush (-11), 2) := by decide +kernel
theorem dX6_wrong_11 : decode cX6_wrong 11 = .ok (.goto 39, 3) := by decide +kernel
theorem dX6_wrong_14 : decode cX6_wrong 14 = .ok (.aload_n 0, 1) := by decide +kernel
theorem dX6_wrong_15 : decode cX6_wrong 15 = .ok (.getfield 7, 3) := by decide +kernel
theorem dX6_wrong_18 : decode cX6_wrong 18 = .ok (.iload_n 1, 1) := by decide +kernel
theorem dX6_wrong_19 : decode cX6_wrong 19 = .ok (.iaload, 1) := by decide +kernel
theorem dX6_wrong_20 : decode cX6_wrong 20 = .ok (.iload_n 2, 1) := by decide +kernel
theorem dX6_wrong_21 : decode cX6_wrong 21 = .ok (.if_icmp .eq 8, 3) := by decide +kernel
theorem dX6_wrong_24 : decode cX6_wrong 24 = .ok (.bipush (-12), 2) := by decide +kernel
theorem dX6_wrong_26 : decode cX6_wrong 26 = .ok (.goto 24, 3) := by decide +kernel
theorem dX6_wrong_29 : decode cX6_wrong 29 = .ok (.iload_n 3, 1) := by decide +kernel
theorem dX6_wrong_30 : decode cX6_wrong 30 = .ok (.iload 4, 2) := by decide +kernel
theorem dX6_wrong_32 : decode cX6_wrong 32 = .ok (.aload_n 0, 1) := by decide +kernel
theorem dX6_wrong_33 : decode cX6_wrong 33 = .ok (.getfield 13, 3) := by decide +kernel
theorem dX6_wrong_36 : decode cX6_wrong 36 = .ok (.iload_n 1, 1) := by decide +kernel
theorem dX6_wrong_37 : decode cX6_wrong 37 = .ok (.iaload, 1) := by decide +kernel
theorem dX6_wrong_38 : decode cX6_wrong 38 = .ok (.invokestatic 159, 3) := by decide +kernel
theorem dX6_wrong_41 : decode cX6_wrong 41 = .ok (.ifCond .eq 7, 3) := by decide +kernel
theorem dX6_wrong_44 : decode cX6_wrong 44 = .ok (.iconst 0, 1) := by decide +kernel
theorem dX6_wrong_45 : decode cX6_wrong 45 = .ok (.goto 5, 3) := by decide +kernel
theorem dX6_wrong_48 : decode cX6_wrong 48 = .ok (.bipush (-13), 2) := by decide +kernel
theorem dX6_wrong_50 : decode cX6_wrong 50 = .ok (.ireturn, 1) := by decide +kernel
theorem dX6_isGrown_0 : decode cX6_isGrown 0 = .ok (.iconst 1, 1) := by decide +kernel
theorem dX6_isGrown_1 : decode cX6_isGrown 1 = .ok (.istore 5, 2) := by decide +kernel
theorem dX6_isGrown_3 : decode cX6_isGrown 3 = .ok (.iconst 0, 1) := by decide +kernel
theorem dX6_isGrown_4 : decode cX6_isGrown 4 = .ok (.istore 6, 2) := by decide +kernel
theorem dX6_isGrown_6 : decode cX6_isGrown 6 = .ok (.iload 6, 2) := by decide +kernel
theorem dX6_isGrown_8 : decode cX6_isGrown 8 = .ok (.iload 4, 2) := by decide +kernel
theorem dX6_isGrown_10 : decode cX6_isGrown 10 = .ok (.if_icmp .ge 57, 3) := by decide +kernel
theorem dX6_isGrown_13 : decode cX6_isGrown 13 = .ok (.iload 5, 2) := by decide +kernel
theorem dX6_isGrown_15 : decode cX6_isGrown 15 = .ok (.ifCond .eq 52, 3) := by decide +kernel
theorem dX6_isGrown_18 : decode cX6_isGrown 18 = .ok (.aload_n 0, 1) := by decide +kernel
theorem dX6_isGrown_19 : decode cX6_isGrown 19 = .ok (.aload_n 0, 1) := by decide +kernel
theorem dX6_isGrown_20 : decode cX6_isGrown 20 = .ok (.getfield 26, 3) := by decide +kernel
theorem dX6_isGrown_23 : decode cX6_isGrown 23 = .ok (.iconst 0, 1) := by decide +kernel
theorem dX6_isGrown_24 : decode cX6_isGrown 24 = .ok (.invokevirtual 126, 3) := by decide +kernel
theorem dX6_isGrown_27 : decode cX6_isGrown 27 = .ok (.aload_n 0, 1) := by decide +kernel
theorem dX6_isGrown_28 : decode cX6_isGrown 28 = .ok (.getfield 26, 3) := by decide +kernel
theorem dX6_isGrown_31 : decode cX6_isGrown 31 = .ok (.iconst 2, 1) := by decide +kernel
theorem dX6_isGrown_32 : decode cX6_isGrown 32 = .ok (.iload_n 1, 1) := by decide +kernel
theorem dX6_isGrown_33 : decode cX6_isGrown 33 = .ok (.iadd, 1) := by decide +kernel
theorem dX6_isGrown_34 : decode cX6_isGrown 34 = .ok (.iaload, 1) := by decide +kernel
theorem dX6_isGrown_35 : decode cX6_isGrown 35 = .ok (.i2l, 1) := by decide +kernel
theorem dX6_isGrown_36 : decode cX6_isGrown 36 = .ok (.aload_n 0, 1) := by decide +kernel
theorem dX6_isGrown_37 : decode cX6_isGrown 37 = .ok (.getfield 16, 3) := by decide +kernel
theorem dX6_isGrown_40 : decode cX6_isGrown 40 = .ok (.bipush 24, 2) := by decide +kernel
theorem dX6_isGrown_42 : decode cX6_isGrown 42 = .ok (.iload_n 2, 1) := by decide +kernel
theorem dX6_isGrown_43 : decode cX6_isGrown 43 = .ok (.imul, 1) := by decide +kernel
theorem dX6_isGrown_44 : decode cX6_isGrown 44 = .ok (.iload_n 3, 1) := by decide +kernel
theorem dX6_isGrown_45 : decode cX6_isGrown 45 = .ok (.iadd, 1) := by decide +kernel
theorem dX6_isGrown_46 : decode cX6_isGrown 46 = .ok (.iload 6, 2) := by decide +kernel
theorem dX6_isGrown_48 : decode cX6_isGrown 48 = .ok (.iadd, 1) := by decide +kernel
theorem dX6_isGrown_49 : decode cX6_isGrown 49 = .ok (.laload, 1) := by decide +kernel
theorem dX6_isGrown_50 : decode cX6_isGrown 50 = .ok (.lcmp, 1) := by decide +kernel
theorem dX6_isGrown_51 : decode cX6_isGrown 51 = .ok (.ifCond .ne 7, 3) := by decide +kernel
theorem dX6_isGrown_54 : decode cX6_isGrown 54 = .ok (.iconst 1, 1) := by decide +kernel
theorem dX6_isGrown_55 : decode cX6_isGrown 55 = .ok (.goto 4, 3) := by decide +kernel
theorem dX6_isGrown_58 : decode cX6_isGrown 58 = .ok (.iconst 0, 1) := by decide +kernel
theorem dX6_isGrown_59 : decode cX6_isGrown 59 = .ok (.istore 5, 2) := by decide +kernel
theorem dX6_isGrown_61 : decode cX6_isGrown 61 = .ok (.iinc 6 1, 3) := by decide +kernel
theorem dX6_isGrown_64 : decode cX6_isGrown 64 = .ok (.goto (-58), 3) := by decide +kernel
theorem dX6_isGrown_67 : decode cX6_isGrown 67 = .ok (.iload 5, 2) := by decide +kernel
theorem dX6_isGrown_69 : decode cX6_isGrown 69 = .ok (.ireturn, 1) := by decide +kernel
theorem dX6_grown_0 : decode cX6_grown 0 = .ok (.aload_n 0, 1) := by decide +kernel
theorem dX6_grown_1 : decode cX6_grown 1 = .ok (.iload_n 1, 1) := by decide +kernel
theorem dX6_grown_2 : decode cX6_grown 2 = .ok (.invokevirtual 58, 3) := by decide +kernel
theorem dX6_grown_5 : decode cX6_grown 5 = .ok (.ifCond .eq 40, 3) := by decide +kernel
theorem dX6_grown_8 : decode cX6_grown 8 = .ok (.iload_n 2, 1) := by decide +kernel
theorem dX6_grown_9 : decode cX6_grown 9 = .ok (.invokestatic 162, 3) := by decide +kernel
theorem dX6_grown_12 : decode cX6_grown 12 = .ok (.ifCond .eq 33, 3) := by decide +kernel
theorem dX6_grown_15 : decode cX6_grown 15 = .ok (.iload_n 3, 1) := by decide +kernel
theorem dX6_grown_16 : decode cX6_grown 16 = .ok (.iconst 0, 1) := by decide +kernel
theorem dX6_grown_17 : decode cX6_grown 17 = .ok (.iconst 3, 1) := by decide +kernel
theorem dX6_grown_18 : decode cX6_grown 18 = .ok (.invokestatic 38, 3) := by decide +kernel
theorem dX6_grown_21 : decode cX6_grown 21 = .ok (.ifCond .eq 24, 3) := by decide +kernel
theorem dX6_grown_24 : decode cX6_grown 24 = .ok (.iload 5, 2) := by decide +kernel
theorem dX6_grown_26 : decode cX6_grown 26 = .ok (.iconst 1, 1) := by decide +kernel
theorem dX6_grown_27 : decode cX6_grown 27 = .ok (.bipush 8, 2) := by decide +kernel
theorem dX6_grown_29 : decode cX6_grown 29 = .ok (.invokestatic 38, 3) := by decide +kernel
theorem dX6_grown_32 : decode cX6_grown 32 = .ok (.ifCond .eq 13, 3) := by decide +kernel
theorem dX6_grown_35 : decode cX6_grown 35 = .ok (.iload 6, 2) := by decide +kernel
theorem dX6_grown_37 : decode cX6_grown 37 = .ok (.iconst 0, 1) := by decide +kernel
theorem dX6_grown_38 : decode cX6_grown 38 = .ok (.iconst 2, 1) := by decide +kernel
theorem dX6_grown_39 : decode cX6_grown 39 = .ok (.invokestatic 38, 3) := by decide +kernel
theorem dX6_grown_42 : decode cX6_grown 42 = .ok (.ifCond .ne 5, 3) := by decide +kernel
theorem dX6_grown_45 : decode cX6_grown 45 = .ok (.iconst (-1), 1) := by decide +kernel
theorem dX6_grown_46 : decode cX6_grown 46 = .ok (.ireturn, 1) := by decide +kernel
theorem dX6_grown_47 : decode cX6_grown 47 = .ok (.aload_n 0, 1) := by decide +kernel
theorem dX6_grown_48 : decode cX6_grown 48 = .ok (.iload_n 2, 1) := by decide +kernel
theorem dX6_grown_49 : decode cX6_grown 49 = .ok (.iload_n 3, 1) := by decide +kernel
theorem dX6_grown_50 : decode cX6_grown 50 = .ok (.iload 4, 2) := by decide +kernel
theorem dX6_grown_52 : decode cX6_grown 52 = .ok (.iload 5, 2) := by decide +kernel
theorem dX6_grown_54 : decode cX6_grown 54 = .ok (.invokevirtual 165, 3) := by decide +kernel
theorem dX6_grown_57 : decode cX6_grown 57 = .ok (.istore 7, 2) := by decide +kernel
theorem dX6_grown_59 : decode cX6_grown 59 = .ok (.iload 7, 2) := by decide +kernel
theorem dX6_grown_61 : decode cX6_grown 61 = .ok (.ifCond .eq 6, 3) := by decide +kernel
theorem dX6_grown_64 : decode cX6_grown 64 = .ok (.iload 7, 2) := by decide +kernel
theorem dX6_grown_66 : decode cX6_grown 66 = .ok (.ireturn, 1) := by decide +kernel
theorem dX6_grown_67 : decode cX6_grown 67 = .ok (.iconst 0, 1) := by decide +kernel
theorem dX6_grown_68 : decode cX6_grown 68 = .ok (.istore 8, 2) := by decide +kernel
theorem dX6_grown_70 : decode cX6_grown 70 = .ok (.iconst 0, 1) := by decide +kernel
theorem dX6_grown_71 : decode cX6_grown 71 = .ok (.istore 9, 2) := by decide +kernel
theorem dX6_grown_73 : decode cX6_grown 73 = .ok (.bipush (-4), 2) := by decide +kernel
theorem dX6_grown_75 : decode cX6_grown 75 = .ok (.istore 10, 2) := by decide +kernel
theorem dX6_grown_77 : decode cX6_grown 77 = .ok (.iload 6, 2) := by decide +kernel
theorem dX6_grown_79 : decode cX6_grown 79 = .ok (.ifCond .ne 7, 3) := by decide +kernel
theorem dX6_grown_82 : decode cX6_grown 82 = .ok (.iconst 4, 1) := by decide +kernel
theorem dX6_grown_83 : decode cX6_grown 83 = .ok (.goto 5, 3) := by decide +kernel
theorem dX6_grown_86 : decode cX6_grown 86 = .ok (.bipush 99, 2) := by decide +kernel
theorem dX6_grown_88 : decode cX6_grown 88 = .ok (.istore 11, 2) := by decide +kernel
theorem dX6_grown_90 : decode cX6_grown 90 = .ok (.iload 11, 2) := by decide +kernel
theorem dX6_grown_92 : decode cX6_grown 92 = .ok (.ifCond .lt 97, 3) := by decide +kernel
theorem dX6_grown_95 : decode cX6_grown 95 = .ok (.aload_n 0, 1) := by decide +kernel
theorem dX6_grown_96 : decode cX6_grown 96 = .ok (.invokevirtual 141, 3) := by decide +kernel
theorem dX6_grown_99 : decode cX6_grown 99 = .ok (.aload_n 0, 1) := by decide +kernel
theorem dX6_grown_100 : decode cX6_grown 100 = .ok (.getfield 26, 3) := by decide +kernel
theorem dX6_grown_103 : decode cX6_grown 103 = .ok (.iload 6, 2) := by decide +kernel
theorem dX6_grown_105 : decode cX6_grown 105 = .ok (.ifCond .ne 8, 3) := by decide +kernel
theorem dX6_grown_108 : decode cX6_grown 108 = .ok (.bipush 24, 2) := by decide +kernel
theorem dX6_grown_110 : decode cX6_grown 110 = .ok (.goto 4, 3) := by decide +kernel
theorem dX6_grown_113 : decode cX6_grown 113 = .ok (.iconst 2, 1) := by decide +kernel
theorem dX6_grown_114 : decode cX6_grown 114 = .ok (.iload_n 1, 1) := by decide +kernel
theorem dX6_grown_115 : decode cX6_grown 115 = .ok (.iadd, 1) := by decide +kernel
theorem dX6_grown_116 : decode cX6_grown 116 = .ok (.iload 11, 2) := by decide +kernel
theorem dX6_grown_118 : decode cX6_grown 118 = .ok (.iastore, 1) := by decide +kernel
theorem dX6_grown_119 : decode cX6_grown 119 = .ok (.aload_n 0, 1) := by decide +kernel
theorem dX6_grown_120 : decode cX6_grown 120 = .ok (.iload_n 1, 1) := by decide +kernel
theorem dX6_grown_121 : decode cX6_grown 121 = .ok (.iload_n 2, 1) := by decide +kernel
theorem dX6_grown_122 : decode cX6_grown 122 = .ok (.iload 4, 2) := by decide +kernel
theorem dX6_grown_124 : decode cX6_grown 124 = .ok (.iload 5, 2) := by decide +kernel
theorem dX6_grown_126 : decode cX6_grown 126 = .ok (.invokevirtual 169, 3) := by decide +kernel
theorem dX6_grown_129 : decode cX6_grown 129 = .ok (.istore 12, 2) := by decide +kernel
theorem dX6_grown_131 : decode cX6_grown 131 = .ok (.iload 8, 2) := by decide +kernel
theorem dX6_grown_133 : decode cX6_grown 133 = .ok (.iload 12, 2) := by decide +kernel
theorem dX6_grown_135 : decode cX6_grown 135 = .ok (.ifCond .eq 15, 3) := by decide +kernel
theorem dX6_grown_138 : decode cX6_grown 138 = .ok (.iload 6, 2) := by decide +kernel
theorem dX6_grown_140 : decode cX6_grown 140 = .ok (.ifCond .ne 10, 3) := by decide +kernel
theorem dX6_grown_143 : decode cX6_grown 143 = .ok (.iconst 1, 1) := by decide +kernel
theorem dX6_grown_144 : decode cX6_grown 144 = .ok (.iload 11, 2) := by decide +kernel
theorem dX6_grown_146 : decode cX6_grown 146 = .ok (.ishl, 1) := by decide +kernel
theorem dX6_grown_147 : decode cX6_grown 147 = .ok (.goto 4, 3) := by decide +kernel
theorem dX6_grown_150 : decode cX6_grown 150 = .ok (.iconst 0, 1) := by decide +kernel
theorem dX6_grown_151 : decode cX6_grown 151 = .ok (.ior, 1) := by decide +kernel
theorem dX6_grown_152 : decode cX6_grown 152 = .ok (.istore 8, 2) := by decide +kernel
theorem dX6_grown_154 : decode cX6_grown 154 = .ok (.iload 9, 2) := by decide +kernel
theorem dX6_grown_156 : decode cX6_grown 156 = .ok (.iload 12, 2) := by decide +kernel
theorem dX6_grown_158 : decode cX6_grown 158 = .ok (.ifCond .eq 7, 3) := by decide +kernel
theorem dX6_grown_161 : decode cX6_grown 161 = .ok (.iconst 1, 1) := by decide +kernel
theorem dX6_grown_162 : decode cX6_grown 162 = .ok (.goto 4, 3) := by decide +kernel
theorem dX6_grown_165 : decode cX6_grown 165 = .ok (.iconst 0, 1) := by decide +kernel
theorem dX6_grown_166 : decode cX6_grown 166 = .ok (.iadd, 1) := by decide +kernel
theorem dX6_grown_167 : decode cX6_grown 167 = .ok (.istore 9, 2) := by decide +kernel
theorem dX6_grown_169 : decode cX6_grown 169 = .ok (.iload 12, 2) := by decide +kernel
theorem dX6_grown_171 : decode cX6_grown 171 = .ok (.ifCond .eq 8, 3) := by decide +kernel
theorem dX6_grown_174 : decode cX6_grown 174 = .ok (.iload 11, 2) := by decide +kernel
theorem dX6_grown_176 : decode cX6_grown 176 = .ok (.goto 5, 3) := by decide +kernel
theorem dX6_grown_179 : decode cX6_grown 179 = .ok (.iload 10, 2) := by decide +kernel
theorem dX6_grown_181 : decode cX6_grown 181 = .ok (.istore 10, 2) := by decide +kernel
theorem dX6_grown_183 : decode cX6_grown 183 = .ok (.iinc 11 (-1), 3) := by decide +kernel
theorem dX6_grown_186 : decode cX6_grown 186 = .ok (.goto (-96), 3) := by decide +kernel
theorem dX6_grown_189 : decode cX6_grown 189 = .ok (.iload 6, 2) := by decide +kernel
theorem dX6_grown_191 : decode cX6_grown 191 = .ok (.ifCond .ne 8, 3) := by decide +kernel
theorem dX6_grown_194 : decode cX6_grown 194 = .ok (.iload 8, 2) := by decide +kernel
theorem dX6_grown_196 : decode cX6_grown 196 = .ok (.goto 16, 3) := by decide +kernel
theorem dX6_grown_199 : decode cX6_grown 199 = .ok (.iload 6, 2) := by decide +kernel
theorem dX6_grown_201 : decode cX6_grown 201 = .ok (.iconst 1, 1) := by decide +kernel
theorem dX6_grown_202 : decode cX6_grown 202 = .ok (.if_icmp .ne 8, 3) := by decide +kernel
theorem dX6_grown_205 : decode cX6_grown 205 = .ok (.iload 9, 2) := by decide +kernel
theorem dX6_grown_207 : decode cX6_grown 207 = .ok (.goto 5, 3) := by decide +kernel
theorem dX6_grown_210 : decode cX6_grown 210 = .ok (.iload 10, 2) := by decide +kernel
theorem dX6_grown_212 : decode cX6_grown 212 = .ok (.ireturn, 1) := by decide +kernel
theorem dX6_film_0 : decode cX6_film 0 = .ok (.aload_n 0, 1) := by decide +kernel
theorem dX6_film_1 : decode cX6_film 1 = .ok (.iload_n 1, 1) := by decide +kernel
theorem dX6_film_2 : decode cX6_film 2 = .ok (.invokevirtual 58, 3) := by decide +kernel
theorem dX6_film_5 : decode cX6_film 5 = .ok (.ifCond .eq 30, 3) := by decide +kernel
theorem dX6_film_8 : decode cX6_film 8 = .ok (.iload_n 2, 1) := by decide +kernel
theorem dX6_film_9 : decode cX6_film 9 = .ok (.iconst 1, 1) := by decide +kernel
theorem dX6_film_10 : decode cX6_film 10 = .ok (.bipush 24, 2) := by decide +kernel
theorem dX6_film_12 : decode cX6_film 12 = .ok (.invokestatic 38, 3) := by decide +kernel
theorem dX6_film_15 : decode cX6_film 15 = .ok (.ifCond .eq 20, 3) := by decide +kernel
theorem dX6_film_18 : decode cX6_film 18 = .ok (.iload_n 3, 1) := by decide +kernel
theorem dX6_film_19 : decode cX6_film 19 = .ok (.invokestatic 162, 3) := by decide +kernel
theorem dX6_film_22 : decode cX6_film 22 = .ok (.ifCond .eq 13, 3) := by decide +kernel
theorem dX6_film_25 : decode cX6_film 25 = .ok (.iload 4, 2) := by decide +kernel
theorem dX6_film_27 : decode cX6_film 27 = .ok (.iconst 0, 1) := by decide +kernel
theorem dX6_film_28 : decode cX6_film 28 = .ok (.iconst 3, 1) := by decide +kernel
theorem dX6_film_29 : decode cX6_film 29 = .ok (.invokestatic 38, 3) := by decide +kernel
theorem dX6_film_32 : decode cX6_film 32 = .ok (.ifCond .ne 5, 3) := by decide +kernel
theorem dX6_film_35 : decode cX6_film 35 = .ok (.iconst (-1), 1) := by decide +kernel
theorem dX6_film_36 : decode cX6_film 36 = .ok (.ireturn, 1) := by decide +kernel
theorem dX6_film_37 : decode cX6_film 37 = .ok (.aload_n 0, 1) := by decide +kernel
theorem dX6_film_38 : decode cX6_film 38 = .ok (.iload_n 3, 1) := by decide +kernel
theorem dX6_film_39 : decode cX6_film 39 = .ok (.iload 4, 2) := by decide +kernel
theorem dX6_film_41 : decode cX6_film 41 = .ok (.iload 5, 2) := by decide +kernel
theorem dX6_film_43 : decode cX6_film 43 = .ok (.iload_n 2, 1) := by decide +kernel
theorem dX6_film_44 : decode cX6_film 44 = .ok (.invokevirtual 165, 3) := by decide +kernel
theorem dX6_film_47 : decode cX6_film 47 = .ok (.istore 6, 2) := by decide +kernel
theorem dX6_film_49 : decode cX6_film 49 = .ok (.iload 6, 2) := by decide +kernel
theorem dX6_film_51 : decode cX6_film 51 = .ok (.ifCond .eq 6, 3) := by decide +kernel
theorem dX6_film_54 : decode cX6_film 54 = .ok (.iload 6, 2) := by decide +kernel
theorem dX6_film_56 : decode cX6_film 56 = .ok (.ireturn, 1) := by decide +kernel
theorem dX6_film_57 : decode cX6_film 57 = .ok (.aload_n 0, 1) := by decide +kernel
theorem dX6_film_58 : decode cX6_film 58 = .ok (.invokevirtual 141, 3) := by decide +kernel
theorem dX6_film_61 : decode cX6_film 61 = .ok (.iconst 0, 1) := by decide +kernel
theorem dX6_film_62 : decode cX6_film 62 = .ok (.istore 7, 2) := by decide +kernel
theorem dX6_film_64 : decode cX6_film 64 = .ok (.iload 7, 2) := by decide +kernel
theorem dX6_film_66 : decode cX6_film 66 = .ok (.iload_n 2, 1) := by decide +kernel
theorem dX6_film_67 : decode cX6_film 67 = .ok (.if_icmp .ge 42, 3) := by decide +kernel
theorem dX6_film_70 : decode cX6_film 70 = .ok (.aload_n 0, 1) := by decide +kernel
theorem dX6_film_71 : decode cX6_film 71 = .ok (.aload_n 0, 1) := by decide +kernel
theorem dX6_film_72 : decode cX6_film 72 = .ok (.getfield 26, 3) := by decide +kernel
theorem dX6_film_75 : decode cX6_film 75 = .ok (.iconst 0, 1) := by decide +kernel
theorem dX6_film_76 : decode cX6_film 76 = .ok (.invokevirtual 126, 3) := by decide +kernel
theorem dX6_film_79 : decode cX6_film 79 = .ok (.aload_n 0, 1) := by decide +kernel
theorem dX6_film_80 : decode cX6_film 80 = .ok (.getfield 16, 3) := by decide +kernel
theorem dX6_film_83 : decode cX6_film 83 = .ok (.bipush 24, 2) := by decide +kernel
theorem dX6_film_85 : decode cX6_film 85 = .ok (.iload_n 3, 1) := by decide +kernel
theorem dX6_film_86 : decode cX6_film 86 = .ok (.imul, 1) := by decide +kernel
theorem dX6_film_87 : decode cX6_film 87 = .ok (.iload 5, 2) := by decide +kernel
theorem dX6_film_89 : decode cX6_film 89 = .ok (.iadd, 1) := by decide +kernel
theorem dX6_film_90 : decode cX6_film 90 = .ok (.iload 7, 2) := by decide +kernel
theorem dX6_film_92 : decode cX6_film 92 = .ok (.iadd, 1) := by decide +kernel
theorem dX6_film_93 : decode cX6_film 93 = .ok (.aload_n 0, 1) := by decide +kernel
theorem dX6_film_94 : decode cX6_film 94 = .ok (.getfield 26, 3) := by decide +kernel
theorem dX6_film_97 : decode cX6_film 97 = .ok (.iconst 2, 1) := by decide +kernel
theorem dX6_film_98 : decode cX6_film 98 = .ok (.iload_n 1, 1) := by decide +kernel
theorem dX6_film_99 : decode cX6_film 99 = .ok (.iadd, 1) := by decide +kernel
theorem dX6_film_100 : decode cX6_film 100 = .ok (.iaload, 1) := by decide +kernel
theorem dX6_film_101 : decode cX6_film 101 = .ok (.i2l, 1) := by decide +kernel
theorem dX6_film_102 : decode cX6_film 102 = .ok (.lastore, 1) := by decide +kernel
theorem dX6_film_103 : decode cX6_film 103 = .ok (.iinc 7 1, 3) := by decide +kernel
theorem dX6_film_106 : decode cX6_film 106 = .ok (.goto (-42), 3) := by decide +kernel
theorem dX6_film_109 : decode cX6_film 109 = .ok (.iload_n 2, 1) := by decide +kernel
theorem dX6_film_110 : decode cX6_film 110 = .ok (.ireturn, 1) := by decide +kernel
theorem dX6_sheet_0 : decode cX6_sheet 0 = .ok (.iload_n 1, 1) := by decide +kernel
theorem dX6_sheet_1 : decode cX6_sheet 1 = .ok (.invokestatic 162, 3) := by decide +kernel
theorem dX6_sheet_4 : decode cX6_sheet 4 = .ok (.ifCond .eq 18, 3) := by decide +kernel
theorem dX6_sheet_7 : decode cX6_sheet 7 = .ok (.iload_n 2, 1) := by decide +kernel
theorem dX6_sheet_8 : decode cX6_sheet 8 = .ok (.iconst 0, 1) := by decide +kernel
theorem dX6_sheet_9 : decode cX6_sheet 9 = .ok (.iconst 3, 1) := by decide +kernel
theorem dX6_sheet_10 : decode cX6_sheet 10 = .ok (.invokestatic 38, 3) := by decide +kernel
theorem dX6_sheet_13 : decode cX6_sheet 13 = .ok (.ifCond .eq 9, 3) := by decide +kernel
theorem dX6_sheet_16 : decode cX6_sheet 16 = .ok (.iload_n 3, 1) := by decide +kernel
theorem dX6_sheet_17 : decode cX6_sheet 17 = .ok (.bipush 24, 2) := by decide +kernel
theorem dX6_sheet_19 : decode cX6_sheet 19 = .ok (.if_icmp .le 5, 3) := by decide +kernel
theorem dX6_sheet_22 : decode cX6_sheet 22 = .ok (.iconst (-1), 1) := by decide +kernel
theorem dX6_sheet_23 : decode cX6_sheet 23 = .ok (.ireturn, 1) := by decide +kernel
theorem dX6_sheet_24 : decode cX6_sheet 24 = .ok (.iload_n 3, 1) := by decide +kernel
theorem dX6_sheet_25 : decode cX6_sheet 25 = .ok (.ifCond .ge 6, 3) := by decide +kernel
theorem dX6_sheet_28 : decode cX6_sheet 28 = .ok (.bipush (-14), 2) := by decide +kernel
theorem dX6_sheet_30 : decode cX6_sheet 30 = .ok (.ireturn, 1) := by decide +kernel
theorem dX6_sheet_31 : decode cX6_sheet 31 = .ok (.aload_n 0, 1) := by decide +kernel
theorem dX6_sheet_32 : decode cX6_sheet 32 = .ok (.getfield 7, 3) := by decide +kernel
theorem dX6_sheet_35 : decode cX6_sheet 35 = .ok (.iload_n 1, 1) := by decide +kernel
theorem dX6_sheet_36 : decode cX6_sheet 36 = .ok (.iload_n 2, 1) := by decide +kernel
theorem dX6_sheet_37 : decode cX6_sheet 37 = .ok (.iastore, 1) := by decide +kernel
theorem dX6_sheet_38 : decode cX6_sheet 38 = .ok (.aload_n 0, 1) := by decide +kernel
theorem dX6_sheet_39 : decode cX6_sheet 39 = .ok (.getfield 13, 3) := by decide +kernel
theorem dX6_sheet_42 : decode cX6_sheet 42 = .ok (.iload_n 1, 1) := by decide +kernel
theorem dX6_sheet_43 : decode cX6_sheet 43 = .ok (.iload_n 3, 1) := by decide +kernel
theorem dX6_sheet_44 : decode cX6_sheet 44 = .ok (.iastore, 1) := by decide +kernel
theorem dX6_sheet_45 : decode cX6_sheet 45 = .ok (.iconst 0, 1) := by decide +kernel
theorem dX6_sheet_46 : decode cX6_sheet 46 = .ok (.istore 4, 2) := by decide +kernel
theorem dX6_sheet_48 : decode cX6_sheet 48 = .ok (.iload 4, 2) := by decide +kernel
theorem dX6_sheet_50 : decode cX6_sheet 50 = .ok (.bipush 24, 2) := by decide +kernel
theorem dX6_sheet_52 : decode cX6_sheet 52 = .ok (.if_icmp .ge 22, 3) := by decide +kernel
theorem dX6_sheet_55 : decode cX6_sheet 55 = .ok (.aload_n 0, 1) := by decide +kernel
theorem dX6_sheet_56 : decode cX6_sheet 56 = .ok (.getfield 16, 3) := by decide +kernel
theorem dX6_sheet_59 : decode cX6_sheet 59 = .ok (.bipush 24, 2) := by decide +kernel
theorem dX6_sheet_61 : decode cX6_sheet 61 = .ok (.iload_n 1, 1) := by decide +kernel
theorem dX6_sheet_62 : decode cX6_sheet 62 = .ok (.imul, 1) := by decide +kernel
theorem dX6_sheet_63 : decode cX6_sheet 63 = .ok (.iload 4, 2) := by decide +kernel
theorem dX6_sheet_65 : decode cX6_sheet 65 = .ok (.iadd, 1) := by decide +kernel
theorem dX6_sheet_66 : decode cX6_sheet 66 = .ok (.lconst 0, 1) := by decide +kernel
theorem dX6_sheet_67 : decode cX6_sheet 67 = .ok (.lastore, 1) := by decide +kernel
theorem dX6_sheet_68 : decode cX6_sheet 68 = .ok (.iinc 4 1, 3) := by decide +kernel
theorem dX6_sheet_71 : decode cX6_sheet 71 = .ok (.goto (-23), 3) := by decide +kernel
theorem dX6_sheet_74 : decode cX6_sheet 74 = .ok (.iload_n 3, 1) := by decide +kernel
theorem dX6_sheet_75 : decode cX6_sheet 75 = .ok (.ireturn, 1) := by decide +kernel
theorem dX6_drop_0 : decode cX6_drop 0 = .ok (.iload_n 1, 1) := by decide +kernel
theorem dX6_drop_1 : decode cX6_drop 1 = .ok (.invokestatic 162, 3) := by decide +kernel
theorem dX6_drop_4 : decode cX6_drop 4 = .ok (.ifCond .ne 5, 3) := by decide +kernel
theorem dX6_drop_7 : decode cX6_drop 7 = .ok (.iconst (-1), 1) := by decide +kernel
theorem dX6_drop_8 : decode cX6_drop 8 = .ok (.ireturn, 1) := by decide +kernel
theorem dX6_drop_9 : decode cX6_drop 9 = .ok (.aload_n 0, 1) := by decide +kernel
theorem dX6_drop_10 : decode cX6_drop 10 = .ok (.getfield 7, 3) := by decide +kernel
theorem dX6_drop_13 : decode cX6_drop 13 = .ok (.iload_n 1, 1) := by decide +kernel
theorem dX6_drop_14 : decode cX6_drop 14 = .ok (.iaload, 1) := by decide +kernel
theorem dX6_drop_15 : decode cX6_drop 15 = .ok (.ifCond .ge 6, 3) := by decide +kernel
theorem dX6_drop_18 : decode cX6_drop 18 = .ok (.bipush (-11), 2) := by decide +kernel
theorem dX6_drop_20 : decode cX6_drop 20 = .ok (.ireturn, 1) := by decide +kernel
theorem dX6_drop_21 : decode cX6_drop 21 = .ok (.aload_n 0, 1) := by decide +kernel
theorem dX6_drop_22 : decode cX6_drop 22 = .ok (.getfield 7, 3) := by decide +kernel
theorem dX6_drop_25 : decode cX6_drop 25 = .ok (.iload_n 1, 1) := by decide +kernel
theorem dX6_drop_26 : decode cX6_drop 26 = .ok (.iconst (-1), 1) := by decide +kernel
theorem dX6_drop_27 : decode cX6_drop 27 = .ok (.iastore, 1) := by decide +kernel
theorem dX6_drop_28 : decode cX6_drop 28 = .ok (.aload_n 0, 1) := by decide +kernel
theorem dX6_drop_29 : decode cX6_drop 29 = .ok (.getfield 13, 3) := by decide +kernel
theorem dX6_drop_32 : decode cX6_drop 32 = .ok (.iload_n 1, 1) := by decide +kernel
theorem dX6_drop_33 : decode cX6_drop 33 = .ok (.iaload, 1) := by decide +kernel
theorem dX6_drop_34 : decode cX6_drop 34 = .ok (.ireturn, 1) := by decide +kernel
theorem dX6_item_0 : decode cX6_item 0 = .ok (.iload_n 1, 1) := by decide +kernel
theorem dX6_item_1 : decode cX6_item 1 = .ok (.invokestatic 162, 3) := by decide +kernel
theorem dX6_item_4 : decode cX6_item 4 = .ok (.ifCond .eq 12, 3) := by decide +kernel
theorem dX6_item_7 : decode cX6_item 7 = .ok (.iload_n 2, 1) := by decide +kernel
theorem dX6_item_8 : decode cX6_item 8 = .ok (.iconst 0, 1) := by decide +kernel
theorem dX6_item_9 : decode cX6_item 9 = .ok (.iconst 3, 1) := by decide +kernel
theorem dX6_item_10 : decode cX6_item 10 = .ok (.invokestatic 38, 3) := by decide +kernel
theorem dX6_item_13 : decode cX6_item 13 = .ok (.ifCond .ne 5, 3) := by decide +kernel
theorem dX6_item_16 : decode cX6_item 16 = .ok (.iconst (-1), 1) := by decide +kernel
theorem dX6_item_17 : decode cX6_item 17 = .ok (.ireturn, 1) := by decide +kernel
theorem dX6_item_18 : decode cX6_item 18 = .ok (.aload_n 0, 1) := by decide +kernel
theorem dX6_item_19 : decode cX6_item 19 = .ok (.iload_n 1, 1) := by decide +kernel
theorem dX6_item_20 : decode cX6_item 20 = .ok (.iload_n 2, 1) := by decide +kernel
theorem dX6_item_21 : decode cX6_item 21 = .ok (.iload_n 3, 1) := by decide +kernel
theorem dX6_item_22 : decode cX6_item 22 = .ok (.iconst 1, 1) := by decide +kernel
theorem dX6_item_23 : decode cX6_item 23 = .ok (.invokevirtual 165, 3) := by decide +kernel
theorem dX6_item_26 : decode cX6_item 26 = .ok (.istore 6, 2) := by decide +kernel
theorem dX6_item_28 : decode cX6_item 28 = .ok (.iload 6, 2) := by decide +kernel
theorem dX6_item_30 : decode cX6_item 30 = .ok (.ifCond .eq 6, 3) := by decide +kernel
theorem dX6_item_33 : decode cX6_item 33 = .ok (.iload 6, 2) := by decide +kernel
theorem dX6_item_35 : decode cX6_item 35 = .ok (.ireturn, 1) := by decide +kernel
theorem dX6_item_36 : decode cX6_item 36 = .ok (.aload_n 0, 1) := by decide +kernel
theorem dX6_item_37 : decode cX6_item 37 = .ok (.getfield 16, 3) := by decide +kernel
theorem dX6_item_40 : decode cX6_item 40 = .ok (.bipush 24, 2) := by decide +kernel
theorem dX6_item_42 : decode cX6_item 42 = .ok (.iload_n 1, 1) := by decide +kernel
theorem dX6_item_43 : decode cX6_item 43 = .ok (.imul, 1) := by decide +kernel
theorem dX6_item_44 : decode cX6_item 44 = .ok (.iload_n 3, 1) := by decide +kernel
theorem dX6_item_45 : decode cX6_item 45 = .ok (.iadd, 1) := by decide +kernel
theorem dX6_item_46 : decode cX6_item 46 = .ok (.iload_n 2, 1) := by decide +kernel
theorem dX6_item_47 : decode cX6_item 47 = .ok (.ifCond .ne 11, 3) := by decide +kernel
theorem dX6_item_50 : decode cX6_item 50 = .ok (.lload 4, 2) := by decide +kernel
theorem dX6_item_52 : decode cX6_item 52 = .ok (.l2i, 1) := by decide +kernel
theorem dX6_item_53 : decode cX6_item 53 = .ok (.i2b, 1) := by decide +kernel
theorem dX6_item_54 : decode cX6_item 54 = .ok (.i2l, 1) := by decide +kernel
theorem dX6_item_55 : decode cX6_item 55 = .ok (.goto 30, 3) := by decide +kernel
theorem dX6_item_58 : decode cX6_item 58 = .ok (.iload_n 2, 1) := by decide +kernel
theorem dX6_item_59 : decode cX6_item 59 = .ok (.iconst 1, 1) := by decide +kernel
theorem dX6_item_60 : decode cX6_item 60 = .ok (.if_icmp .ne 11, 3) := by decide +kernel
theorem dX6_item_63 : decode cX6_item 63 = .ok (.lload 4, 2) := by decide +kernel
theorem dX6_item_65 : decode cX6_item 65 = .ok (.l2i, 1) := by decide +kernel
theorem dX6_item_66 : decode cX6_item 66 = .ok (.i2s, 1) := by decide +kernel
theorem dX6_item_67 : decode cX6_item 67 = .ok (.i2l, 1) := by decide +kernel
theorem dX6_item_68 : decode cX6_item 68 = .ok (.goto 17, 3) := by decide +kernel
theorem dX6_item_71 : decode cX6_item 71 = .ok (.iload_n 2, 1) := by decide +kernel
theorem dX6_item_72 : decode cX6_item 72 = .ok (.iconst 2, 1) := by decide +kernel
theorem dX6_item_73 : decode cX6_item 73 = .ok (.if_icmp .ne 10, 3) := by decide +kernel
theorem dX6_item_76 : decode cX6_item 76 = .ok (.lload 4, 2) := by decide +kernel
theorem dX6_item_78 : decode cX6_item 78 = .ok (.l2i, 1) := by decide +kernel
theorem dX6_item_79 : decode cX6_item 79 = .ok (.i2l, 1) := by decide +kernel
theorem dX6_item_80 : decode cX6_item 80 = .ok (.goto 5, 3) := by decide +kernel
theorem dX6_item_83 : decode cX6_item 83 = .ok (.lload 4, 2) := by decide +kernel
theorem dX6_item_85 : decode cX6_item 85 = .ok (.lastore, 1) := by decide +kernel
theorem dX6_item_86 : decode cX6_item 86 = .ok (.iconst 1, 1) := by decide +kernel
theorem dX6_item_87 : decode cX6_item 87 = .ok (.ireturn, 1) := by decide +kernel
theorem dX6_copy_0 : decode cX6_copy 0 = .ok (.iload_n 1, 1) := by decide +kernel
theorem dX6_copy_1 : decode cX6_copy 1 = .ok (.invokestatic 162, 3) := by decide +kernel
theorem dX6_copy_4 : decode cX6_copy 4 = .ok (.ifCond .eq 10, 3) := by decide +kernel
theorem dX6_copy_7 : decode cX6_copy 7 = .ok (.iload_n 3, 1) := by decide +kernel
theorem dX6_copy_8 : decode cX6_copy 8 = .ok (.invokestatic 162, 3) := by decide +kernel
theorem dX6_copy_11 : decode cX6_copy 11 = .ok (.ifCond .ne 5, 3) := by decide +kernel
theorem dX6_copy_14 : decode cX6_copy 14 = .ok (.iconst (-1), 1) := by decide +kernel
theorem dX6_copy_15 : decode cX6_copy 15 = .ok (.ireturn, 1) := by decide +kernel
theorem dX6_copy_16 : decode cX6_copy 16 = .ok (.aload_n 0, 1) := by decide +kernel
theorem dX6_copy_17 : decode cX6_copy 17 = .ok (.getfield 7, 3) := by decide +kernel
theorem dX6_copy_20 : decode cX6_copy 20 = .ok (.iload_n 1, 1) := by decide +kernel
theorem dX6_copy_21 : decode cX6_copy 21 = .ok (.iaload, 1) := by decide +kernel
theorem dX6_copy_22 : decode cX6_copy 22 = .ok (.ifCond .lt 12, 3) := by decide +kernel
theorem dX6_copy_25 : decode cX6_copy 25 = .ok (.aload_n 0, 1) := by decide +kernel
theorem dX6_copy_26 : decode cX6_copy 26 = .ok (.getfield 7, 3) := by decide +kernel
theorem dX6_copy_29 : decode cX6_copy 29 = .ok (.iload_n 3, 1) := by decide +kernel
theorem dX6_copy_30 : decode cX6_copy 30 = .ok (.iaload, 1) := by decide +kernel
theorem dX6_copy_31 : decode cX6_copy 31 = .ok (.ifCond .ge 6, 3) := by decide +kernel
theorem dX6_copy_34 : decode cX6_copy 34 = .ok (.bipush (-11), 2) := by decide +kernel
theorem dX6_copy_36 : decode cX6_copy 36 = .ok (.ireturn, 1) := by decide +kernel
theorem dX6_copy_37 : decode cX6_copy 37 = .ok (.aload_n 0, 1) := by decide +kernel
theorem dX6_copy_38 : decode cX6_copy 38 = .ok (.getfield 7, 3) := by decide +kernel
theorem dX6_copy_41 : decode cX6_copy 41 = .ok (.iload_n 1, 1) := by decide +kernel
theorem dX6_copy_42 : decode cX6_copy 42 = .ok (.iaload, 1) := by decide +kernel
theorem dX6_copy_43 : decode cX6_copy 43 = .ok (.aload_n 0, 1) := by decide +kernel
theorem dX6_copy_44 : decode cX6_copy 44 = .ok (.getfield 7, 3) := by decide +kernel
theorem dX6_copy_47 : decode cX6_copy 47 = .ok (.iload_n 3, 1) := by decide +kernel
theorem dX6_copy_48 : decode cX6_copy 48 = .ok (.iaload, 1) := by decide +kernel
theorem dX6_copy_49 : decode cX6_copy 49 = .ok (.if_icmp .eq 6, 3) := by decide +kernel
theorem dX6_copy_52 : decode cX6_copy 52 = .ok (.bipush (-12), 2) := by decide +kernel
theorem dX6_copy_54 : decode cX6_copy 54 = .ok (.ireturn, 1) := by decide +kernel
theorem dX6_copy_55 : decode cX6_copy 55 = .ok (.iload_n 2, 1) := by decide +kernel
theorem dX6_copy_56 : decode cX6_copy 56 = .ok (.iload 5, 2) := by decide +kernel
theorem dX6_copy_58 : decode cX6_copy 58 = .ok (.aload_n 0, 1) := by decide +kernel
theorem dX6_copy_59 : decode cX6_copy 59 = .ok (.getfield 13, 3) := by decide +kernel
theorem dX6_copy_62 : decode cX6_copy 62 = .ok (.iload_n 1, 1) := by decide +kernel
theorem dX6_copy_63 : decode cX6_copy 63 = .ok (.iaload, 1) := by decide +kernel
theorem dX6_copy_64 : decode cX6_copy 64 = .ok (.invokestatic 159, 3) := by decide +kernel
theorem dX6_copy_67 : decode cX6_copy 67 = .ok (.ifCond .eq 19, 3) := by decide +kernel
theorem dX6_copy_70 : decode cX6_copy 70 = .ok (.iload 4, 2) := by decide +kernel
theorem dX6_copy_72 : decode cX6_copy 72 = .ok (.iload 5, 2) := by decide +kernel
theorem dX6_copy_74 : decode cX6_copy 74 = .ok (.aload_n 0, 1) := by decide +kernel
theorem dX6_copy_75 : decode cX6_copy 75 = .ok (.getfield 13, 3) := by decide +kernel
theorem dX6_copy_78 : decode cX6_copy 78 = .ok (.iload_n 3, 1) := by decide +kernel
theorem dX6_copy_79 : decode cX6_copy 79 = .ok (.iaload, 1) := by decide +kernel
theorem dX6_copy_80 : decode cX6_copy 80 = .ok (.invokestatic 159, 3) := by decide +kernel
theorem dX6_copy_83 : decode cX6_copy 83 = .ok (.ifCond .ne 6, 3) := by decide +kernel
theorem dX6_copy_86 : decode cX6_copy 86 = .ok (.bipush (-13), 2) := by decide +kernel
theorem dX6_copy_88 : decode cX6_copy 88 = .ok (.ireturn, 1) := by decide +kernel
theorem dX6_copy_89 : decode cX6_copy 89 = .ok (.iload_n 1, 1) := by decide +kernel
theorem dX6_copy_90 : decode cX6_copy 90 = .ok (.iload_n 3, 1) := by decide +kernel
theorem dX6_copy_91 : decode cX6_copy 91 = .ok (.if_icmp .ne 13, 3) := by decide +kernel
theorem dX6_copy_94 : decode cX6_copy 94 = .ok (.iload 4, 2) := by decide +kernel
theorem dX6_copy_96 : decode cX6_copy 96 = .ok (.iload_n 2, 1) := by decide +kernel
theorem dX6_copy_97 : decode cX6_copy 97 = .ok (.if_icmp .le 7, 3) := by decide +kernel
theorem dX6_copy_100 : decode cX6_copy 100 = .ok (.iconst 1, 1) := by decide +kernel
theorem dX6_copy_101 : decode cX6_copy 101 = .ok (.goto 4, 3) := by decide +kernel
theorem dX6_copy_104 : decode cX6_copy 104 = .ok (.iconst 0, 1) := by decide +kernel
theorem dX6_copy_105 : decode cX6_copy 105 = .ok (.istore 6, 2) := by decide +kernel
theorem dX6_copy_107 : decode cX6_copy 107 = .ok (.iconst 0, 1) := by decide +kernel
theorem dX6_copy_108 : decode cX6_copy 108 = .ok (.istore 7, 2) := by decide +kernel
theorem dX6_copy_110 : decode cX6_copy 110 = .ok (.iload 7, 2) := by decide +kernel
theorem dX6_copy_112 : decode cX6_copy 112 = .ok (.iload 5, 2) := by decide +kernel
theorem dX6_copy_114 : decode cX6_copy 114 = .ok (.if_icmp .ge 57, 3) := by decide +kernel
theorem dX6_copy_117 : decode cX6_copy 117 = .ok (.iload 6, 2) := by decide +kernel
theorem dX6_copy_119 : decode cX6_copy 119 = .ok (.ifCond .eq 13, 3) := by decide +kernel
theorem dX6_copy_122 : decode cX6_copy 122 = .ok (.iload 5, 2) := by decide +kernel
theorem dX6_copy_124 : decode cX6_copy 124 = .ok (.iconst 1, 1) := by decide +kernel
theorem dX6_copy_125 : decode cX6_copy 125 = .ok (.isub, 1) := by decide +kernel
theorem dX6_copy_126 : decode cX6_copy 126 = .ok (.iload 7, 2) := by decide +kernel
theorem dX6_copy_128 : decode cX6_copy 128 = .ok (.isub, 1) := by decide +kernel
theorem dX6_copy_129 : decode cX6_copy 129 = .ok (.goto 5, 3) := by decide +kernel
theorem dX6_copy_132 : decode cX6_copy 132 = .ok (.iload 7, 2) := by decide +kernel
theorem dX6_copy_134 : decode cX6_copy 134 = .ok (.istore 8, 2) := by decide +kernel
theorem dX6_copy_136 : decode cX6_copy 136 = .ok (.aload_n 0, 1) := by decide +kernel
theorem dX6_copy_137 : decode cX6_copy 137 = .ok (.getfield 16, 3) := by decide +kernel
theorem dX6_copy_140 : decode cX6_copy 140 = .ok (.bipush 24, 2) := by decide +kernel
theorem dX6_copy_142 : decode cX6_copy 142 = .ok (.iload_n 3, 1) := by decide +kernel
theorem dX6_copy_143 : decode cX6_copy 143 = .ok (.imul, 1) := by decide +kernel
theorem dX6_copy_144 : decode cX6_copy 144 = .ok (.iload 4, 2) := by decide +kernel
theorem dX6_copy_146 : decode cX6_copy 146 = .ok (.iadd, 1) := by decide +kernel
theorem dX6_copy_147 : decode cX6_copy 147 = .ok (.iload 8, 2) := by decide +kernel
theorem dX6_copy_149 : decode cX6_copy 149 = .ok (.iadd, 1) := by decide +kernel
theorem dX6_copy_150 : decode cX6_copy 150 = .ok (.aload_n 0, 1) := by decide +kernel
theorem dX6_copy_151 : decode cX6_copy 151 = .ok (.getfield 16, 3) := by decide +kernel
theorem dX6_copy_154 : decode cX6_copy 154 = .ok (.bipush 24, 2) := by decide +kernel
theorem dX6_copy_156 : decode cX6_copy 156 = .ok (.iload_n 1, 1) := by decide +kernel
theorem dX6_copy_157 : decode cX6_copy 157 = .ok (.imul, 1) := by decide +kernel
theorem dX6_copy_158 : decode cX6_copy 158 = .ok (.iload_n 2, 1) := by decide +kernel
theorem dX6_copy_159 : decode cX6_copy 159 = .ok (.iadd, 1) := by decide +kernel
theorem dX6_copy_160 : decode cX6_copy 160 = .ok (.iload 8, 2) := by decide +kernel
theorem dX6_copy_162 : decode cX6_copy 162 = .ok (.iadd, 1) := by decide +kernel
theorem dX6_copy_163 : decode cX6_copy 163 = .ok (.laload, 1) := by decide +kernel
theorem dX6_copy_164 : decode cX6_copy 164 = .ok (.lastore, 1) := by decide +kernel
theorem dX6_copy_165 : decode cX6_copy 165 = .ok (.iinc 7 1, 3) := by decide +kernel
theorem dX6_copy_168 : decode cX6_copy 168 = .ok (.goto (-58), 3) := by decide +kernel
theorem dX6_copy_171 : decode cX6_copy 171 = .ok (.iload 5, 2) := by decide +kernel
theorem dX6_copy_173 : decode cX6_copy 173 = .ok (.ireturn, 1) := by decide +kernel
theorem dJ6_bitCount_0f7a4_0 : decode cJ6_bitCount_0f7a4 0 = .ok (.iload_n 0, 1) := by decide +kernel
theorem dJ6_bitCount_0f7a4_1 : decode cJ6_bitCount_0f7a4 1 = .ok (.iload_n 0, 1) := by decide +kernel
theorem dJ6_bitCount_0f7a4_2 : decode cJ6_bitCount_0f7a4 2 = .ok (.iconst 1, 1) := by decide +kernel
theorem dJ6_bitCount_0f7a4_3 : decode cJ6_bitCount_0f7a4 3 = .ok (.iushr, 1) := by decide +kernel
theorem dJ6_bitCount_0f7a4_4 : decode cJ6_bitCount_0f7a4 4 = .ok (.ldc_w 265, 3) := by decide +kernel
theorem dJ6_bitCount_0f7a4_7 : decode cJ6_bitCount_0f7a4 7 = .ok (.iand, 1) := by decide +kernel
theorem dJ6_bitCount_0f7a4_8 : decode cJ6_bitCount_0f7a4 8 = .ok (.isub, 1) := by decide +kernel
theorem dJ6_bitCount_0f7a4_9 : decode cJ6_bitCount_0f7a4 9 = .ok (.istore_n 0, 1) := by decide +kernel
theorem dJ6_bitCount_0f7a4_10 : decode cJ6_bitCount_0f7a4 10 = .ok (.iload_n 0, 1) := by decide +kernel
theorem dJ6_bitCount_0f7a4_11 : decode cJ6_bitCount_0f7a4 11 = .ok (.ldc_w 266, 3) := by decide +kernel
theorem dJ6_bitCount_0f7a4_14 : decode cJ6_bitCount_0f7a4 14 = .ok (.iand, 1) := by decide +kernel
theorem dJ6_bitCount_0f7a4_15 : decode cJ6_bitCount_0f7a4 15 = .ok (.iload_n 0, 1) := by decide +kernel
theorem dJ6_bitCount_0f7a4_16 : decode cJ6_bitCount_0f7a4 16 = .ok (.iconst 2, 1) := by decide +kernel
theorem dJ6_bitCount_0f7a4_17 : decode cJ6_bitCount_0f7a4 17 = .ok (.iushr, 1) := by decide +kernel
theorem dJ6_bitCount_0f7a4_18 : decode cJ6_bitCount_0f7a4 18 = .ok (.ldc_w 266, 3) := by decide +kernel
theorem dJ6_bitCount_0f7a4_21 : decode cJ6_bitCount_0f7a4 21 = .ok (.iand, 1) := by decide +kernel
theorem dJ6_bitCount_0f7a4_22 : decode cJ6_bitCount_0f7a4 22 = .ok (.iadd, 1) := by decide +kernel
theorem dJ6_bitCount_0f7a4_23 : decode cJ6_bitCount_0f7a4 23 = .ok (.istore_n 0, 1) := by decide +kernel
theorem dJ6_bitCount_0f7a4_24 : decode cJ6_bitCount_0f7a4 24 = .ok (.iload_n 0, 1) := by decide +kernel
theorem dJ6_bitCount_0f7a4_25 : decode cJ6_bitCount_0f7a4 25 = .ok (.iload_n 0, 1) := by decide +kernel
theorem dJ6_bitCount_0f7a4_26 : decode cJ6_bitCount_0f7a4 26 = .ok (.iconst 4, 1) := by decide +kernel
theorem dJ6_bitCount_0f7a4_27 : decode cJ6_bitCount_0f7a4 27 = .ok (.iushr, 1) := by decide +kernel
theorem dJ6_bitCount_0f7a4_28 : decode cJ6_bitCount_0f7a4 28 = .ok (.iadd, 1) := by decide +kernel
theorem dJ6_bitCount_0f7a4_29 : decode cJ6_bitCount_0f7a4 29 = .ok (.ldc_w 267, 3) := by decide +kernel
theorem dJ6_bitCount_0f7a4_32 : decode cJ6_bitCount_0f7a4 32 = .ok (.iand, 1) := by decide +kernel
theorem dJ6_bitCount_0f7a4_33 : decode cJ6_bitCount_0f7a4 33 = .ok (.istore_n 0, 1) := by decide +kernel
theorem dJ6_bitCount_0f7a4_34 : decode cJ6_bitCount_0f7a4 34 = .ok (.iload_n 0, 1) := by decide +kernel
theorem dJ6_bitCount_0f7a4_35 : decode cJ6_bitCount_0f7a4 35 = .ok (.iload_n 0, 1) := by decide +kernel
theorem dJ6_bitCount_0f7a4_36 : decode cJ6_bitCount_0f7a4 36 = .ok (.bipush 8, 2) := by decide +kernel
theorem dJ6_bitCount_0f7a4_38 : decode cJ6_bitCount_0f7a4 38 = .ok (.iushr, 1) := by decide +kernel
theorem dJ6_bitCount_0f7a4_39 : decode cJ6_bitCount_0f7a4 39 = .ok (.iadd, 1) := by decide +kernel
theorem dJ6_bitCount_0f7a4_40 : decode cJ6_bitCount_0f7a4 40 = .ok (.istore_n 0, 1) := by decide +kernel
theorem dJ6_bitCount_0f7a4_41 : decode cJ6_bitCount_0f7a4 41 = .ok (.iload_n 0, 1) := by decide +kernel
theorem dJ6_bitCount_0f7a4_42 : decode cJ6_bitCount_0f7a4 42 = .ok (.iload_n 0, 1) := by decide +kernel
theorem dJ6_bitCount_0f7a4_43 : decode cJ6_bitCount_0f7a4 43 = .ok (.bipush 16, 2) := by decide +kernel
theorem dJ6_bitCount_0f7a4_45 : decode cJ6_bitCount_0f7a4 45 = .ok (.iushr, 1) := by decide +kernel
theorem dJ6_bitCount_0f7a4_46 : decode cJ6_bitCount_0f7a4 46 = .ok (.iadd, 1) := by decide +kernel
theorem dJ6_bitCount_0f7a4_47 : decode cJ6_bitCount_0f7a4 47 = .ok (.istore_n 0, 1) := by decide +kernel
theorem dJ6_bitCount_0f7a4_48 : decode cJ6_bitCount_0f7a4 48 = .ok (.iload_n 0, 1) := by decide +kernel
theorem dJ6_bitCount_0f7a4_49 : decode cJ6_bitCount_0f7a4 49 = .ok (.bipush 63, 2) := by decide +kernel
theorem dJ6_bitCount_0f7a4_51 : decode cJ6_bitCount_0f7a4 51 = .ok (.iand, 1) := by decide +kernel
theorem dJ6_bitCount_0f7a4_52 : decode cJ6_bitCount_0f7a4 52 = .ok (.ireturn, 1) := by decide +kernel
theorem dJ0_length_8abf5_0 : decode cJ0_length_8abf5 0 = .ok (.aload_n 0, 1) := by decide +kernel
theorem dJ0_length_8abf5_1 : decode cJ0_length_8abf5 1 = .ok (.getfield 9, 3) := by decide +kernel
theorem dJ0_length_8abf5_4 : decode cJ0_length_8abf5 4 = .ok (.arraylength, 1) := by decide +kernel
theorem dJ0_length_8abf5_5 : decode cJ0_length_8abf5 5 = .ok (.aload_n 0, 1) := by decide +kernel
theorem dJ0_length_8abf5_6 : decode cJ0_length_8abf5 6 = .ok (.invokevirtual 335, 3) := by decide +kernel
theorem dJ0_length_8abf5_9 : decode cJ0_length_8abf5 9 = .ok (.ishr, 1) := by decide +kernel
theorem dJ0_length_8abf5_10 : decode cJ0_length_8abf5 10 = .ok (.ireturn, 1) := by decide +kernel
theorem dJ0_indexOf_0f7a4_0 : decode cJ0_indexOf_0f7a4 0 = .ok (.aload_n 0, 1) := by decide +kernel
theorem dJ0_indexOf_0f7a4_1 : decode cJ0_indexOf_0f7a4 1 = .ok (.iload_n 1, 1) := by decide +kernel
theorem dJ0_indexOf_0f7a4_2 : decode cJ0_indexOf_0f7a4 2 = .ok (.iconst 0, 1) := by decide +kernel
theorem dJ0_indexOf_0f7a4_3 : decode cJ0_indexOf_0f7a4 3 = .ok (.invokevirtual 633, 3) := by decide +kernel
theorem dJ0_indexOf_0f7a4_6 : decode cJ0_indexOf_0f7a4 6 = .ok (.ireturn, 1) := by decide +kernel
theorem dJ0_indexOf_7cf53_0 : decode cJ0_indexOf_7cf53 0 = .ok (.aload_n 0, 1) := by decide +kernel
theorem dJ0_indexOf_7cf53_1 : decode cJ0_indexOf_7cf53 1 = .ok (.invokevirtual 492, 3) := by decide +kernel
theorem dJ0_indexOf_7cf53_4 : decode cJ0_indexOf_7cf53 4 = .ok (.ifCond .eq 19, 3) := by decide +kernel
theorem dJ0_indexOf_7cf53_7 : decode cJ0_indexOf_7cf53 7 = .ok (.aload_n 0, 1) := by decide +kernel
theorem dJ0_indexOf_7cf53_8 : decode cJ0_indexOf_7cf53 8 = .ok (.getfield 9, 3) := by decide +kernel
theorem dJ0_indexOf_7cf53_11 : decode cJ0_indexOf_7cf53 11 = .ok (.iload_n 1, 1) := by decide +kernel
theorem dJ0_indexOf_7cf53_12 : decode cJ0_indexOf_7cf53 12 = .ok (.iload_n 2, 1) := by decide +kernel
theorem dJ0_indexOf_7cf53_13 : decode cJ0_indexOf_7cf53 13 = .ok (.aload_n 0, 1) := by decide +kernel
theorem dJ0_indexOf_7cf53_14 : decode cJ0_indexOf_7cf53 14 = .ok (.invokevirtual 505, 3) := by decide +kernel
theorem dJ0_indexOf_7cf53_17 : decode cJ0_indexOf_7cf53 17 = .ok (.invokestatic 637, 3) := by decide +kernel
theorem dJ0_indexOf_7cf53_20 : decode cJ0_indexOf_7cf53 20 = .ok (.goto 16, 3) := by decide +kernel
theorem dJ0_indexOf_7cf53_23 : decode cJ0_indexOf_7cf53 23 = .ok (.aload_n 0, 1) := by decide +kernel
theorem dJ0_indexOf_7cf53_24 : decode cJ0_indexOf_7cf53 24 = .ok (.getfield 9, 3) := by decide +kernel
theorem dJ0_indexOf_7cf53_27 : decode cJ0_indexOf_7cf53 27 = .ok (.iload_n 1, 1) := by decide +kernel
theorem dJ0_indexOf_7cf53_28 : decode cJ0_indexOf_7cf53 28 = .ok (.iload_n 2, 1) := by decide +kernel
theorem dJ0_indexOf_7cf53_29 : decode cJ0_indexOf_7cf53 29 = .ok (.aload_n 0, 1) := by decide +kernel
theorem dJ0_indexOf_7cf53_30 : decode cJ0_indexOf_7cf53 30 = .ok (.invokevirtual 505, 3) := by decide +kernel
theorem dJ0_indexOf_7cf53_33 : decode cJ0_indexOf_7cf53 33 = .ok (.invokestatic 640, 3) := by decide +kernel
theorem dJ0_indexOf_7cf53_36 : decode cJ0_indexOf_7cf53 36 = .ok (.ireturn, 1) := by decide +kernel
theorem dJ0_coder_7d493_0 : decode cJ0_coder_7d493 0 = .ok (.getstatic 38, 3) := by decide +kernel
theorem dJ0_coder_7d493_3 : decode cJ0_coder_7d493 3 = .ok (.ifCond .eq 10, 3) := by decide +kernel
theorem dJ0_coder_7d493_6 : decode cJ0_coder_7d493 6 = .ok (.aload_n 0, 1) := by decide +kernel
theorem dJ0_coder_7d493_7 : decode cJ0_coder_7d493 7 = .ok (.getfield 15, 3) := by decide +kernel
theorem dJ0_coder_7d493_10 : decode cJ0_coder_7d493 10 = .ok (.goto 4, 3) := by decide +kernel
theorem dJ0_coder_7d493_13 : decode cJ0_coder_7d493 13 = .ok (.iconst 1, 1) := by decide +kernel
theorem dJ0_coder_7d493_14 : decode cJ0_coder_7d493 14 = .ok (.ireturn, 1) := by decide +kernel
theorem dJ0_isLatin1_aae02_0 : decode cJ0_isLatin1_aae02 0 = .ok (.getstatic 38, 3) := by decide +kernel
theorem dJ0_isLatin1_aae02_3 : decode cJ0_isLatin1_aae02 3 = .ok (.ifCond .eq 14, 3) := by decide +kernel
theorem dJ0_isLatin1_aae02_6 : decode cJ0_isLatin1_aae02 6 = .ok (.aload_n 0, 1) := by decide +kernel
theorem dJ0_isLatin1_aae02_7 : decode cJ0_isLatin1_aae02 7 = .ok (.getfield 15, 3) := by decide +kernel
theorem dJ0_isLatin1_aae02_10 : decode cJ0_isLatin1_aae02 10 = .ok (.ifCond .ne 7, 3) := by decide +kernel
theorem dJ0_isLatin1_aae02_13 : decode cJ0_isLatin1_aae02 13 = .ok (.iconst 1, 1) := by decide +kernel
theorem dJ0_isLatin1_aae02_14 : decode cJ0_isLatin1_aae02 14 = .ok (.goto 4, 3) := by decide +kernel
theorem dJ0_isLatin1_aae02_17 : decode cJ0_isLatin1_aae02 17 = .ok (.iconst 0, 1) := by decide +kernel
theorem dJ0_isLatin1_aae02_18 : decode cJ0_isLatin1_aae02 18 = .ok (.ireturn, 1) := by decide +kernel
theorem dJ1_canEncode_9a6ad_0 : decode cJ1_canEncode_9a6ad 0 = .ok (.iload_n 0, 1) := by decide +kernel
theorem dJ1_canEncode_9a6ad_1 : decode cJ1_canEncode_9a6ad 1 = .ok (.ifCond .lt 14, 3) := by decide +kernel
theorem dJ1_canEncode_9a6ad_4 : decode cJ1_canEncode_9a6ad 4 = .ok (.iload_n 0, 1) := by decide +kernel
theorem dJ1_canEncode_9a6ad_5 : decode cJ1_canEncode_9a6ad 5 = .ok (.sipush 255, 3) := by decide +kernel
theorem dJ1_canEncode_9a6ad_8 : decode cJ1_canEncode_9a6ad 8 = .ok (.if_icmp .gt 7, 3) := by decide +kernel
theorem dJ1_canEncode_9a6ad_11 : decode cJ1_canEncode_9a6ad 11 = .ok (.iconst 1, 1) := by decide +kernel
theorem dJ1_canEncode_9a6ad_12 : decode cJ1_canEncode_9a6ad 12 = .ok (.goto 4, 3) := by decide +kernel
theorem dJ1_canEncode_9a6ad_15 : decode cJ1_canEncode_9a6ad 15 = .ok (.iconst 0, 1) := by decide +kernel
theorem dJ1_canEncode_9a6ad_16 : decode cJ1_canEncode_9a6ad 16 = .ok (.ireturn, 1) := by decide +kernel
theorem dJ1_indexOf_4cfef_0 : decode cJ1_indexOf_4cfef 0 = .ok (.iload_n 1, 1) := by decide +kernel
theorem dJ1_indexOf_4cfef_1 : decode cJ1_indexOf_4cfef 1 = .ok (.invokestatic 88, 3) := by decide +kernel
theorem dJ1_indexOf_4cfef_4 : decode cJ1_indexOf_4cfef 4 = .ok (.ifCond .ne 5, 3) := by decide +kernel
theorem dJ1_indexOf_4cfef_7 : decode cJ1_indexOf_4cfef 7 = .ok (.iconst (-1), 1) := by decide +kernel
theorem dJ1_indexOf_4cfef_8 : decode cJ1_indexOf_4cfef 8 = .ok (.ireturn, 1) := by decide +kernel
theorem dJ1_indexOf_4cfef_9 : decode cJ1_indexOf_4cfef 9 = .ok (.iload_n 2, 1) := by decide +kernel
theorem dJ1_indexOf_4cfef_10 : decode cJ1_indexOf_4cfef 10 = .ok (.iconst 0, 1) := by decide +kernel
theorem dJ1_indexOf_4cfef_11 : decode cJ1_indexOf_4cfef 11 = .ok (.invokestatic 92, 3) := by decide +kernel
theorem dJ1_indexOf_4cfef_14 : decode cJ1_indexOf_4cfef 14 = .ok (.istore_n 2, 1) := by decide +kernel
theorem dJ1_indexOf_4cfef_15 : decode cJ1_indexOf_4cfef 15 = .ok (.iload_n 3, 1) := by decide +kernel
theorem dJ1_indexOf_4cfef_16 : decode cJ1_indexOf_4cfef 16 = .ok (.aload_n 0, 1) := by decide +kernel
theorem dJ1_indexOf_4cfef_17 : decode cJ1_indexOf_4cfef 17 = .ok (.arraylength, 1) := by decide +kernel
theorem dJ1_indexOf_4cfef_18 : decode cJ1_indexOf_4cfef 18 = .ok (.invokestatic 38, 3) := by decide +kernel
theorem dJ1_indexOf_4cfef_21 : decode cJ1_indexOf_4cfef 21 = .ok (.istore_n 3, 1) := by decide +kernel
theorem dJ1_indexOf_4cfef_22 : decode cJ1_indexOf_4cfef 22 = .ok (.iload_n 2, 1) := by decide +kernel
theorem dJ1_indexOf_4cfef_23 : decode cJ1_indexOf_4cfef 23 = .ok (.iload_n 3, 1) := by decide +kernel
theorem dJ1_indexOf_4cfef_24 : decode cJ1_indexOf_4cfef 24 = .ok (.if_icmp .lt 5, 3) := by decide +kernel
theorem dJ1_indexOf_4cfef_27 : decode cJ1_indexOf_4cfef 27 = .ok (.iconst (-1), 1) := by decide +kernel
theorem dJ1_indexOf_4cfef_28 : decode cJ1_indexOf_4cfef 28 = .ok (.ireturn, 1) := by decide +kernel
theorem dJ1_indexOf_4cfef_29 : decode cJ1_indexOf_4cfef 29 = .ok (.aload_n 0, 1) := by decide +kernel
theorem dJ1_indexOf_4cfef_30 : decode cJ1_indexOf_4cfef 30 = .ok (.iload_n 1, 1) := by decide +kernel
theorem dJ1_indexOf_4cfef_31 : decode cJ1_indexOf_4cfef 31 = .ok (.iload_n 2, 1) := by decide +kernel
theorem dJ1_indexOf_4cfef_32 : decode cJ1_indexOf_4cfef 32 = .ok (.iload_n 3, 1) := by decide +kernel
theorem dJ1_indexOf_4cfef_33 : decode cJ1_indexOf_4cfef 33 = .ok (.invokestatic 95, 3) := by decide +kernel
theorem dJ1_indexOf_4cfef_36 : decode cJ1_indexOf_4cfef 36 = .ok (.ireturn, 1) := by decide +kernel
theorem dJ1_indexOfChar_4cfef_0 : decode cJ1_indexOfChar_4cfef 0 = .ok (.iload_n 1, 1) := by decide +kernel
theorem dJ1_indexOfChar_4cfef_1 : decode cJ1_indexOfChar_4cfef 1 = .ok (.i2b, 1) := by decide +kernel
theorem dJ1_indexOfChar_4cfef_2 : decode cJ1_indexOfChar_4cfef 2 = .ok (.istore 4, 2) := by decide +kernel
theorem dJ1_indexOfChar_4cfef_4 : decode cJ1_indexOfChar_4cfef 4 = .ok (.iload_n 2, 1) := by decide +kernel
theorem dJ1_indexOfChar_4cfef_5 : decode cJ1_indexOfChar_4cfef 5 = .ok (.istore 5, 2) := by decide +kernel
theorem dJ1_indexOfChar_4cfef_7 : decode cJ1_indexOfChar_4cfef 7 = .ok (.iload 5, 2) := by decide +kernel
theorem dJ1_indexOfChar_4cfef_9 : decode cJ1_indexOfChar_4cfef 9 = .ok (.iload_n 3, 1) := by decide +kernel
theorem dJ1_indexOfChar_4cfef_10 : decode cJ1_indexOfChar_4cfef 10 = .ok (.if_icmp .ge 21, 3) := by decide +kernel
theorem dJ1_indexOfChar_4cfef_13 : decode cJ1_indexOfChar_4cfef 13 = .ok (.aload_n 0, 1) := by decide +kernel
theorem dJ1_indexOfChar_4cfef_14 : decode cJ1_indexOfChar_4cfef 14 = .ok (.iload 5, 2) := by decide +kernel
theorem dJ1_indexOfChar_4cfef_16 : decode cJ1_indexOfChar_4cfef 16 = .ok (.baload, 1) := by decide +kernel
theorem dJ1_indexOfChar_4cfef_17 : decode cJ1_indexOfChar_4cfef 17 = .ok (.iload 4, 2) := by decide +kernel
theorem dJ1_indexOfChar_4cfef_19 : decode cJ1_indexOfChar_4cfef 19 = .ok (.if_icmp .ne 6, 3) := by decide +kernel
theorem dJ1_indexOfChar_4cfef_22 : decode cJ1_indexOfChar_4cfef 22 = .ok (.iload 5, 2) := by decide +kernel
theorem dJ1_indexOfChar_4cfef_24 : decode cJ1_indexOfChar_4cfef 24 = .ok (.ireturn, 1) := by decide +kernel
theorem dJ1_indexOfChar_4cfef_25 : decode cJ1_indexOfChar_4cfef 25 = .ok (.iinc 5 1, 3) := by decide +kernel
theorem dJ1_indexOfChar_4cfef_28 : decode cJ1_indexOfChar_4cfef 28 = .ok (.goto (-21), 3) := by decide +kernel
theorem dJ1_indexOfChar_4cfef_31 : decode cJ1_indexOfChar_4cfef 31 = .ok (.iconst (-1), 1) := by decide +kernel
theorem dJ1_indexOfChar_4cfef_32 : decode cJ1_indexOfChar_4cfef 32 = .ok (.ireturn, 1) := by decide +kernel
