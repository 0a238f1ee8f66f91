theorem dX6_isOneItem_96 : decode cX6_isOneItem 96 = .ok (.aload_n 0, 1) := by decide +kernel
theorem dX6_isOneItem_97 : decode cX6_isOneItem 97 = .ok (.bipush 120, 2) := by decide +kernel
theorem dX6_isOneItem_99 : decode cX6_isOneItem 99 = .ok (.invokevirtual 92, 3) := by decide +kernel
theorem dX6_isOneItem_102 : decode cX6_isOneItem 102 = .ok (.ifCond .eq 23, 3) := by decide +kernel
theorem dX6_isOneItem_105 : decode cX6_isOneItem 105 = .ok (.aload_n 0, 1) := by decide +kernel
theorem dX6_isOneItem_106 : decode cX6_isOneItem 106 = .ok (.getfield 29, 3) := by decide +kernel
theorem dX6_isOneItem_109 : decode cX6_isOneItem 109 = .ok (.bipush 20, 2) := by decide +kernel
theorem dX6_isOneItem_111 : decode cX6_isOneItem 111 = .ok (.aload_n 0, 1) := by decide +kernel
theorem dX6_isOneItem_112 : decode cX6_isOneItem 112 = .ok (.getfield 29, 3) := by decide +kernel
theorem dX6_isOneItem_115 : decode cX6_isOneItem 115 = .ok (.bipush 20, 2) := by decide +kernel
theorem dX6_isOneItem_117 : decode cX6_isOneItem 117 = .ok (.iaload, 1) := by decide +kernel
theorem dX6_isOneItem_118 : decode cX6_isOneItem 118 = .ok (.iconst 1, 1) := by decide +kernel
theorem dX6_isOneItem_119 : decode cX6_isOneItem 119 = .ok (.iload_n 3, 1) := by decide +kernel
theorem dX6_isOneItem_120 : decode cX6_isOneItem 120 = .ok (.ishl, 1) := by decide +kernel
theorem dX6_isOneItem_121 : decode cX6_isOneItem 121 = .ok (.iconst (-1), 1) := by decide +kernel
theorem dX6_isOneItem_122 : decode cX6_isOneItem 122 = .ok (.ixor, 1) := by decide +kernel
theorem dX6_isOneItem_123 : decode cX6_isOneItem 123 = .ok (.iand, 1) := by decide +kernel
theorem dX6_isOneItem_124 : decode cX6_isOneItem 124 = .ok (.iastore, 1) := by decide +kernel
theorem dX6_isOneItem_125 : decode cX6_isOneItem 125 = .ok (.iconst 1, 1) := by decide +kernel
theorem dX6_isOneItem_126 : decode cX6_isOneItem 126 = .ok (.ireturn, 1) := by decide +kernel
theorem dX6_isThiefItem_0 : decode cX6_isThiefItem 0 = .ok (.aload_n 0, 1) := by decide +kernel
theorem dX6_isThiefItem_1 : decode cX6_isThiefItem 1 = .ok (.iconst 0, 1) := by decide +kernel
theorem dX6_isThiefItem_2 : decode cX6_isThiefItem 2 = .ok (.bipush 9, 2) := by decide +kernel
theorem dX6_isThiefItem_4 : decode cX6_isThiefItem 4 = .ok (.invokevirtual 86, 3) := by decide +kernel
theorem dX6_isThiefItem_7 : decode cX6_isThiefItem 7 = .ok (.ifCond .ne 5, 3) := by decide +kernel
theorem dX6_isThiefItem_10 : decode cX6_isThiefItem 10 = .ok (.iconst 0, 1) := by decide +kernel
theorem dX6_isThiefItem_11 : decode cX6_isThiefItem 11 = .ok (.ireturn, 1) := by decide +kernel
theorem dX6_isThiefItem_12 : decode cX6_isThiefItem 12 = .ok (.aload_n 0, 1) := by decide +kernel
theorem dX6_isThiefItem_13 : decode cX6_isThiefItem 13 = .ok (.getfield 83, 3) := by decide +kernel
theorem dX6_isThiefItem_16 : decode cX6_isThiefItem 16 = .ok (.istore_n 1, 1) := by decide +kernel
theorem dX6_isThiefItem_17 : decode cX6_isThiefItem 17 = .ok (.aload_n 0, 1) := by decide +kernel
theorem dX6_isThiefItem_18 : decode cX6_isThiefItem 18 = .ok (.iconst 0, 1) := by decide +kernel
theorem dX6_isThiefItem_19 : decode cX6_isThiefItem 19 = .ok (.iconst 4, 1) := by decide +kernel
theorem dX6_isThiefItem_20 : decode cX6_isThiefItem 20 = .ok (.invokevirtual 86, 3) := by decide +kernel
theorem dX6_isThiefItem_23 : decode cX6_isThiefItem 23 = .ok (.ifCond .ne 5, 3) := by decide +kernel
theorem dX6_isThiefItem_26 : decode cX6_isThiefItem 26 = .ok (.iconst 0, 1) := by decide +kernel
theorem dX6_isThiefItem_27 : decode cX6_isThiefItem 27 = .ok (.ireturn, 1) := by decide +kernel
theorem dX6_isThiefItem_28 : decode cX6_isThiefItem 28 = .ok (.aload_n 0, 1) := by decide +kernel
theorem dX6_isThiefItem_29 : decode cX6_isThiefItem 29 = .ok (.getfield 29, 3) := by decide +kernel
theorem dX6_isThiefItem_32 : decode cX6_isThiefItem 32 = .ok (.iload_n 1, 1) := by decide +kernel
theorem dX6_isThiefItem_33 : decode cX6_isThiefItem 33 = .ok (.aload_n 0, 1) := by decide +kernel
theorem dX6_isThiefItem_34 : decode cX6_isThiefItem 34 = .ok (.getfield 83, 3) := by decide +kernel
theorem dX6_isThiefItem_37 : decode cX6_isThiefItem 37 = .ok (.invokestatic 46, 3) := by decide +kernel
theorem dX6_isThiefItem_40 : decode cX6_isThiefItem 40 = .ok (.pop, 1) := by decide +kernel
theorem dX6_isThiefItem_41 : decode cX6_isThiefItem 41 = .ok (.iconst 1, 1) := by decide +kernel
theorem dX6_isThiefItem_42 : decode cX6_isThiefItem 42 = .ok (.ireturn, 1) := by decide +kernel
theorem dX6_isTown_0 : decode cX6_isTown 0 = .ok (.aload_n 0, 1) := by decide +kernel
theorem dX6_isTown_1 : decode cX6_isTown 1 = .ok (.invokevirtual 95, 3) := by decide +kernel
theorem dX6_isTown_4 : decode cX6_isTown 4 = .ok (.ifCond .ne 5, 3) := by decide +kernel
theorem dX6_isTown_7 : decode cX6_isTown 7 = .ok (.iconst 0, 1) := by decide +kernel
theorem dX6_isTown_8 : decode cX6_isTown 8 = .ok (.ireturn, 1) := by decide +kernel
theorem dX6_isTown_9 : decode cX6_isTown 9 = .ok (.aload_n 0, 1) := by decide +kernel
theorem dX6_isTown_10 : decode cX6_isTown 10 = .ok (.getfield 29, 3) := by decide +kernel
theorem dX6_isTown_13 : decode cX6_isTown 13 = .ok (.bipush 22, 2) := by decide +kernel
theorem dX6_isTown_15 : decode cX6_isTown 15 = .ok (.aload_n 0, 1) := by decide +kernel
theorem dX6_isTown_16 : decode cX6_isTown 16 = .ok (.getfield 83, 3) := by decide +kernel
theorem dX6_isTown_19 : decode cX6_isTown 19 = .ok (.iastore, 1) := by decide +kernel
theorem dX6_isTown_20 : decode cX6_isTown 20 = .ok (.aload_n 0, 1) := by decide +kernel
theorem dX6_isTown_21 : decode cX6_isTown 21 = .ok (.bipush 59, 2) := by decide +kernel
theorem dX6_isTown_23 : decode cX6_isTown 23 = .ok (.invokevirtual 92, 3) := by decide +kernel
theorem dX6_isTown_26 : decode cX6_isTown 26 = .ok (.ifCond .ne 5, 3) := by decide +kernel
theorem dX6_isTown_29 : decode cX6_isTown 29 = .ok (.iconst 0, 1) := by decide +kernel
theorem dX6_isTown_30 : decode cX6_isTown 30 = .ok (.ireturn, 1) := by decide +kernel
theorem dX6_isTown_31 : decode cX6_isTown 31 = .ok (.iconst 1, 1) := by decide +kernel
theorem dX6_isTown_32 : decode cX6_isTown 32 = .ok (.istore_n 1, 1) := by decide +kernel
theorem dX6_isTown_33 : decode cX6_isTown 33 = .ok (.iload_n 1, 1) := by decide +kernel
theorem dX6_isTown_34 : decode cX6_isTown 34 = .ok (.ifCond .eq 42, 3) := by decide +kernel
theorem dX6_isTown_37 : decode cX6_isTown 37 = .ok (.aload_n 0, 1) := by decide +kernel
theorem dX6_isTown_38 : decode cX6_isTown 38 = .ok (.invokevirtual 99, 3) := by decide +kernel
theorem dX6_isTown_41 : decode cX6_isTown 41 = .ok (.ifCond .ne 5, 3) := by decide +kernel
theorem dX6_isTown_44 : decode cX6_isTown 44 = .ok (.iconst 0, 1) := by decide +kernel
theorem dX6_isTown_45 : decode cX6_isTown 45 = .ok (.ireturn, 1) := by decide +kernel
theorem dX6_isTown_46 : decode cX6_isTown 46 = .ok (.aload_n 0, 1) := by decide +kernel
theorem dX6_isTown_47 : decode cX6_isTown 47 = .ok (.getfield 29, 3) := by decide +kernel
theorem dX6_isTown_50 : decode cX6_isTown 50 = .ok (.bipush 23, 2) := by decide +kernel
theorem dX6_isTown_52 : decode cX6_isTown 52 = .ok (.iaload, 1) := by decide +kernel
theorem dX6_isTown_53 : decode cX6_isTown 53 = .ok (.bipush 6, 2) := by decide +kernel
theorem dX6_isTown_55 : decode cX6_isTown 55 = .ok (.if_icmp .ge 16, 3) := by decide +kernel
theorem dX6_isTown_58 : decode cX6_isTown 58 = .ok (.aload_n 0, 1) := by decide +kernel
theorem dX6_isTown_59 : decode cX6_isTown 59 = .ok (.bipush 44, 2) := by decide +kernel
theorem dX6_isTown_61 : decode cX6_isTown 61 = .ok (.invokevirtual 92, 3) := by decide +kernel
theorem dX6_isTown_64 : decode cX6_isTown 64 = .ok (.ifCond .eq 7, 3) := by decide +kernel
theorem dX6_isTown_67 : decode cX6_isTown 67 = .ok (.iconst 1, 1) := by decide +kernel
theorem dX6_isTown_68 : decode cX6_isTown 68 = .ok (.goto 4, 3) := by decide +kernel
theorem dX6_isTown_71 : decode cX6_isTown 71 = .ok (.iconst 0, 1) := by decide +kernel
theorem dX6_isTown_72 : decode cX6_isTown 72 = .ok (.istore_n 1, 1) := by decide +kernel
theorem dX6_isTown_73 : decode cX6_isTown 73 = .ok (.goto (-40), 3) := by decide +kernel
theorem dX6_isTown_76 : decode cX6_isTown 76 = .ok (.aload_n 0, 1) := by decide +kernel
theorem dX6_isTown_77 : decode cX6_isTown 77 = .ok (.bipush 59, 2) := by decide +kernel
theorem dX6_isTown_79 : decode cX6_isTown 79 = .ok (.invokevirtual 92, 3) := by decide +kernel
theorem dX6_isTown_82 : decode cX6_isTown 82 = .ok (.istore_n 1, 1) := by decide +kernel
theorem dX6_isTown_83 : decode cX6_isTown 83 = .ok (.iload_n 1, 1) := by decide +kernel
theorem dX6_isTown_84 : decode cX6_isTown 84 = .ok (.ifCond .eq 41, 3) := by decide +kernel
theorem dX6_isTown_87 : decode cX6_isTown 87 = .ok (.aload_n 0, 1) := by decide +kernel
theorem dX6_isTown_88 : decode cX6_isTown 88 = .ok (.invokevirtual 102, 3) := by decide +kernel
theorem dX6_isTown_91 : decode cX6_isTown 91 = .ok (.ifCond .ne 5, 3) := by decide +kernel
theorem dX6_isTown_94 : decode cX6_isTown 94 = .ok (.iconst 0, 1) := by decide +kernel
theorem dX6_isTown_95 : decode cX6_isTown 95 = .ok (.ireturn, 1) := by decide +kernel
theorem dX6_isTown_96 : decode cX6_isTown 96 = .ok (.aload_n 0, 1) := by decide +kernel
theorem dX6_isTown_97 : decode cX6_isTown 97 = .ok (.getfield 29, 3) := by decide +kernel
theorem dX6_isTown_100 : decode cX6_isTown 100 = .ok (.bipush 30, 2) := by decide +kernel
theorem dX6_isTown_102 : decode cX6_isTown 102 = .ok (.iaload, 1) := by decide +kernel
theorem dX6_isTown_103 : decode cX6_isTown 103 = .ok (.iconst 4, 1) := by decide +kernel
theorem dX6_isTown_104 : decode cX6_isTown 104 = .ok (.if_icmp .ge 16, 3) := by decide +kernel
theorem dX6_isTown_107 : decode cX6_isTown 107 = .ok (.aload_n 0, 1) := by decide +kernel
theorem dX6_isTown_108 : decode cX6_isTown 108 = .ok (.bipush 44, 2) := by decide +kernel
theorem dX6_isTown_110 : decode cX6_isTown 110 = .ok (.invokevirtual 92, 3) := by decide +kernel
theorem dX6_isTown_113 : decode cX6_isTown 113 = .ok (.ifCond .eq 7, 3) := by decide +kernel
theorem dX6_isTown_116 : decode cX6_isTown 116 = .ok (.iconst 1, 1) := by decide +kernel
theorem dX6_isTown_117 : decode cX6_isTown 117 = .ok (.goto 4, 3) := by decide +kernel
theorem dX6_isTown_120 : decode cX6_isTown 120 = .ok (.iconst 0, 1) := by decide +kernel
theorem dX6_isTown_121 : decode cX6_isTown 121 = .ok (.istore_n 1, 1) := by decide +kernel
theorem dX6_isTown_122 : decode cX6_isTown 122 = .ok (.goto (-39), 3) := by decide +kernel
theorem dX6_isTown_125 : decode cX6_isTown 125 = .ok (.aload_n 0, 1) := by decide +kernel
theorem dX6_isTown_126 : decode cX6_isTown 126 = .ok (.invokevirtual 79, 3) := by decide +kernel
theorem dX6_isTown_129 : decode cX6_isTown 129 = .ok (.ifCond .ne 7, 3) := by decide +kernel
theorem dX6_isTown_132 : decode cX6_isTown 132 = .ok (.iconst 1, 1) := by decide +kernel
theorem dX6_isTown_133 : decode cX6_isTown 133 = .ok (.goto 4, 3) := by decide +kernel
theorem dX6_isTown_136 : decode cX6_isTown 136 = .ok (.iconst 0, 1) := by decide +kernel
theorem dX6_isTown_137 : decode cX6_isTown 137 = .ok (.ireturn, 1) := by decide +kernel
theorem dX6_town_0 : decode cX6_town 0 = .ok (.iconst 0, 1) := by decide +kernel
theorem dX6_town_1 : decode cX6_town 1 = .ok (.istore_n 1, 1) := by decide +kernel
theorem dX6_town_2 : decode cX6_town 2 = .ok (.iload_n 1, 1) := by decide +kernel
theorem dX6_town_3 : decode cX6_town 3 = .ok (.sipush 216, 3) := by decide +kernel
theorem dX6_town_6 : decode cX6_town 6 = .ok (.if_icmp .ge 16, 3) := by decide +kernel
theorem dX6_town_9 : decode cX6_town 9 = .ok (.aload_n 0, 1) := by decide +kernel
theorem dX6_town_10 : decode cX6_town 10 = .ok (.getfield 29, 3) := by decide +kernel
theorem dX6_town_13 : decode cX6_town 13 = .ok (.iload_n 1, 1) := by decide +kernel
theorem dX6_town_14 : decode cX6_town 14 = .ok (.iconst 0, 1) := by decide +kernel
theorem dX6_town_15 : decode cX6_town 15 = .ok (.iastore, 1) := by decide +kernel
theorem dX6_town_16 : decode cX6_town 16 = .ok (.iinc 1 1, 3) := by decide +kernel
theorem dX6_town_19 : decode cX6_town 19 = .ok (.goto (-17), 3) := by decide +kernel
theorem dX6_town_22 : decode cX6_town 22 = .ok (.aload_n 0, 1) := by decide +kernel
theorem dX6_town_23 : decode cX6_town 23 = .ok (.getfield 29, 3) := by decide +kernel
theorem dX6_town_26 : decode cX6_town 26 = .ok (.iconst 1, 1) := by decide +kernel
theorem dX6_town_27 : decode cX6_town 27 = .ok (.aload_n 0, 1) := by decide +kernel
theorem dX6_town_28 : decode cX6_town 28 = .ok (.getfield 23, 3) := by decide +kernel
theorem dX6_town_31 : decode cX6_town 31 = .ok (.iconst 1, 1) := by decide +kernel
theorem dX6_town_32 : decode cX6_town 32 = .ok (.iaload, 1) := by decide +kernel
theorem dX6_town_33 : decode cX6_town 33 = .ok (.iastore, 1) := by decide +kernel
theorem dX6_town_34 : decode cX6_town 34 = .ok (.aload_n 0, 1) := by decide +kernel
theorem dX6_town_35 : decode cX6_town 35 = .ok (.iconst 0, 1) := by decide +kernel
theorem dX6_town_36 : decode cX6_town 36 = .ok (.putfield 76, 3) := by decide +kernel
theorem dX6_town_39 : decode cX6_town 39 = .ok (.aload_n 0, 1) := by decide +kernel
theorem dX6_town_40 : decode cX6_town 40 = .ok (.invokevirtual 105, 3) := by decide +kernel
theorem dX6_town_43 : decode cX6_town 43 = .ok (.istore_n 1, 1) := by decide +kernel
theorem dX6_town_44 : decode cX6_town 44 = .ok (.aload_n 0, 1) := by decide +kernel
theorem dX6_town_45 : decode cX6_town 45 = .ok (.iconst 0, 1) := by decide +kernel
theorem dX6_town_46 : decode cX6_town 46 = .ok (.putfield 72, 3) := by decide +kernel
theorem dX6_town_49 : decode cX6_town 49 = .ok (.iload_n 1, 1) := by decide +kernel
theorem dX6_town_50 : decode cX6_town 50 = .ok (.ifCond .ne 11, 3) := by decide +kernel
theorem dX6_town_53 : decode cX6_town 53 = .ok (.bipush (-20), 2) := by decide +kernel
theorem dX6_town_55 : decode cX6_town 55 = .ok (.aload_n 0, 1) := by decide +kernel
theorem dX6_town_56 : decode cX6_town 56 = .ok (.getfield 76, 3) := by decide +kernel
theorem dX6_town_59 : decode cX6_town 59 = .ok (.isub, 1) := by decide +kernel
theorem dX6_town_60 : decode cX6_town 60 = .ok (.ireturn, 1) := by decide +kernel
theorem dX6_town_61 : decode cX6_town 61 = .ok (.aload_n 0, 1) := by decide +kernel
theorem dX6_town_62 : decode cX6_town 62 = .ok (.getfield 29, 3) := by decide +kernel
theorem dX6_town_65 : decode cX6_town 65 = .ok (.iconst 0, 1) := by decide +kernel
theorem dX6_town_66 : decode cX6_town 66 = .ok (.aload_n 0, 1) := by decide +kernel
theorem dX6_town_67 : decode cX6_town 67 = .ok (.getfield 23, 3) := by decide +kernel
theorem dX6_town_70 : decode cX6_town 70 = .ok (.iconst 0, 1) := by decide +kernel
theorem dX6_town_71 : decode cX6_town 71 = .ok (.sipush 216, 3) := by decide +kernel
theorem dX6_town_74 : decode cX6_town 74 = .ok (.invokestatic 108, 3) := by decide +kernel
theorem dX6_town_77 : decode cX6_town 77 = .ok (.aload_n 0, 1) := by decide +kernel
theorem dX6_town_78 : decode cX6_town 78 = .ok (.getfield 23, 3) := by decide +kernel
theorem dX6_town_81 : decode cX6_town 81 = .ok (.bipush 23, 2) := by decide +kernel
theorem dX6_town_83 : decode cX6_town 83 = .ok (.iaload, 1) := by decide +kernel
theorem dX6_town_84 : decode cX6_town 84 = .ok (.ireturn, 1) := by decide +kernel
theorem dX6_count_0 : decode cX6_count 0 = .ok (.iconst 0, 1) := by decide +kernel
theorem dX6_count_1 : decode cX6_count 1 = .ok (.istore_n 2, 1) := by decide +kernel
theorem dX6_count_2 : decode cX6_count 2 = .ok (.iload_n 1, 1) := by decide +kernel
theorem dX6_count_3 : decode cX6_count 3 = .ok (.tableswitch 150 0 7 #[45, 53, 61, 68, 76, 84, 92, 142], 45) := by decide +kernel
theorem dX6_count_48 : decode cX6_count 48 = .ok (.aload_n 0, 1) := by decide +kernel
theorem dX6_count_49 : decode cX6_count 49 = .ok (.getfield 23, 3) := by decide +kernel
theorem dX6_count_52 : decode cX6_count 52 = .ok (.bipush 23, 2) := by decide +kernel
theorem dX6_count_54 : decode cX6_count 54 = .ok (.iaload, 1) := by decide +kernel
theorem dX6_count_55 : decode cX6_count 55 = .ok (.ireturn, 1) := by decide +kernel
theorem dX6_count_56 : decode cX6_count 56 = .ok (.aload_n 0, 1) := by decide +kernel
theorem dX6_count_57 : decode cX6_count 57 = .ok (.getfield 23, 3) := by decide +kernel
theorem dX6_count_60 : decode cX6_count 60 = .ok (.bipush 30, 2) := by decide +kernel
theorem dX6_count_62 : decode cX6_count 62 = .ok (.iaload, 1) := by decide +kernel
theorem dX6_count_63 : decode cX6_count 63 = .ok (.ireturn, 1) := by decide +kernel
theorem dX6_count_64 : decode cX6_count 64 = .ok (.aload_n 0, 1) := by decide +kernel
theorem dX6_count_65 : decode cX6_count 65 = .ok (.getfield 23, 3) := by decide +kernel
theorem dX6_count_68 : decode cX6_count 68 = .ok (.iconst 0, 1) := by decide +kernel
theorem dX6_count_69 : decode cX6_count 69 = .ok (.iaload, 1) := by decide +kernel
theorem dX6_count_70 : decode cX6_count 70 = .ok (.ireturn, 1) := by decide +kernel
theorem dX6_count_71 : decode cX6_count 71 = .ok (.aload_n 0, 1) := by decide +kernel
theorem dX6_count_72 : decode cX6_count 72 = .ok (.getfield 23, 3) := by decide +kernel
theorem dX6_count_75 : decode cX6_count 75 = .ok (.bipush 22, 2) := by decide +kernel
theorem dX6_count_77 : decode cX6_count 77 = .ok (.iaload, 1) := by decide +kernel
theorem dX6_count_78 : decode cX6_count 78 = .ok (.ireturn, 1) := by decide +kernel
theorem dX6_count_79 : decode cX6_count 79 = .ok (.aload_n 0, 1) := by decide +kernel
theorem dX6_count_80 : decode cX6_count 80 = .ok (.getfield 23, 3) := by decide +kernel
theorem dX6_count_83 : decode cX6_count 83 = .ok (.bipush 21, 2) := by decide +kernel
theorem dX6_count_85 : decode cX6_count 85 = .ok (.iaload, 1) := by decide +kernel
theorem dX6_count_86 : decode cX6_count 86 = .ok (.ireturn, 1) := by decide +kernel
theorem dX6_count_87 : decode cX6_count 87 = .ok (.aload_n 0, 1) := by decide +kernel
theorem dX6_count_88 : decode cX6_count 88 = .ok (.getfield 23, 3) := by decide +kernel
theorem dX6_count_91 : decode cX6_count 91 = .ok (.bipush 20, 2) := by decide +kernel
theorem dX6_count_93 : decode cX6_count 93 = .ok (.iaload, 1) := by decide +kernel
theorem dX6_count_94 : decode cX6_count 94 = .ok (.ireturn, 1) := by decide +kernel
theorem dX6_count_95 : decode cX6_count 95 = .ok (.iconst 0, 1) := by decide +kernel
theorem dX6_count_96 : decode cX6_count 96 = .ok (.istore_n 3, 1) := by decide +kernel
theorem dX6_count_97 : decode cX6_count 97 = .ok (.iload_n 3, 1) := by decide +kernel
theorem dX6_count_98 : decode cX6_count 98 = .ok (.aload_n 0, 1) := by decide +kernel
theorem dX6_count_99 : decode cX6_count 99 = .ok (.getfield 23, 3) := by decide +kernel
theorem dX6_count_102 : decode cX6_count 102 = .ok (.bipush 23, 2) := by decide +kernel
theorem dX6_count_104 : decode cX6_count 104 = .ok (.iaload, 1) := by decide +kernel
theorem dX6_count_105 : decode cX6_count 105 = .ok (.if_icmp .ge 38, 3) := by decide +kernel
theorem dX6_count_108 : decode cX6_count 108 = .ok (.iload_n 2, 1) := by decide +kernel
theorem dX6_count_109 : decode cX6_count 109 = .ok (.aload_n 0, 1) := by decide +kernel
theorem dX6_count_110 : decode cX6_count 110 = .ok (.getfield 23, 3) := by decide +kernel
theorem dX6_count_113 : decode cX6_count 113 = .ok (.bipush 21, 2) := by decide +kernel
theorem dX6_count_115 : decode cX6_count 115 = .ok (.iaload, 1) := by decide +kernel
theorem dX6_count_116 : decode cX6_count 116 = .ok (.iload_n 3, 1) := by decide +kernel
theorem dX6_count_117 : decode cX6_count 117 = .ok (.invokestatic 50, 3) := by decide +kernel
theorem dX6_count_120 : decode cX6_count 120 = .ok (.ifCond .eq 7, 3) := by decide +kernel
theorem dX6_count_123 : decode cX6_count 123 = .ok (.iconst 0, 1) := by decide +kernel
theorem dX6_count_124 : decode cX6_count 124 = .ok (.goto 11, 3) := by decide +kernel
theorem dX6_count_127 : decode cX6_count 127 = .ok (.aload_n 0, 1) := by decide +kernel
theorem dX6_count_128 : decode cX6_count 128 = .ok (.getfield 23, 3) := by decide +kernel
theorem dX6_count_131 : decode cX6_count 131 = .ok (.iconst 2, 1) := by decide +kernel
theorem dX6_count_132 : decode cX6_count 132 = .ok (.iload_n 3, 1) := by decide +kernel
theorem dX6_count_133 : decode cX6_count 133 = .ok (.iadd, 1) := by decide +kernel
theorem dX6_count_134 : decode cX6_count 134 = .ok (.iaload, 1) := by decide +kernel
theorem dX6_count_135 : decode cX6_count 135 = .ok (.iadd, 1) := by decide +kernel
theorem dX6_count_136 : decode cX6_count 136 = .ok (.istore_n 2, 1) := by decide +kernel
theorem dX6_count_137 : decode cX6_count 137 = .ok (.iinc 3 1, 3) := by decide +kernel
theorem dX6_count_140 : decode cX6_count 140 = .ok (.goto (-43), 3) := by decide +kernel
theorem dX6_count_143 : decode cX6_count 143 = .ok (.iload_n 2, 1) := by decide +kernel
theorem dX6_count_144 : decode cX6_count 144 = .ok (.ireturn, 1) := by decide +kernel
theorem dX6_count_145 : decode cX6_count 145 = .ok (.aload_n 0, 1) := by decide +kernel
theorem dX6_count_146 : decode cX6_count 146 = .ok (.getfield 23, 3) := by decide +kernel
theorem dX6_count_149 : decode cX6_count 149 = .ok (.bipush 39, 2) := by decide +kernel
theorem dX6_count_151 : decode cX6_count 151 = .ok (.iaload, 1) := by decide +kernel
theorem dX6_count_152 : decode cX6_count 152 = .ok (.ireturn, 1) := by decide +kernel
theorem dX6_count_153 : decode cX6_count 153 = .ok (.iconst (-1), 1) := by decide +kernel
theorem dX6_count_154 : decode cX6_count 154 = .ok (.ireturn, 1) := by decide +kernel
theorem dX6_note_0 : decode cX6_note 0 = .ok (.aload_n 0, 1) := by decide +kernel
theorem dX6_note_1 : decode cX6_note 1 = .ok (.getfield 23, 3) := by decide +kernel
theorem dX6_note_4 : decode cX6_note 4 = .ok (.bipush 39, 2) := by decide +kernel
theorem dX6_note_6 : decode cX6_note 6 = .ok (.iaload, 1) := by decide +kernel
theorem dX6_note_7 : decode cX6_note 7 = .ok (.bipush 8, 2) := by decide +kernel
theorem dX6_note_9 : decode cX6_note 9 = .ok (.if_icmp .ne 32, 3) := by decide +kernel
theorem dX6_note_12 : decode cX6_note 12 = .ok (.aload_n 0, 1) := by decide +kernel
theorem dX6_note_13 : decode cX6_note 13 = .ok (.getfield 23, 3) := by decide +kernel
theorem dX6_note_16 : decode cX6_note 16 = .ok (.bipush 62, 2) := by decide +kernel
theorem dX6_note_18 : decode cX6_note 18 = .ok (.aload_n 0, 1) := by decide +kernel
theorem dX6_note_19 : decode cX6_note 19 = .ok (.getfield 23, 3) := by decide +kernel
theorem dX6_note_22 : decode cX6_note 22 = .ok (.bipush 40, 2) := by decide +kernel
theorem dX6_note_24 : decode cX6_note 24 = .ok (.sipush 154, 3) := by decide +kernel
theorem dX6_note_27 : decode cX6_note 27 = .ok (.invokestatic 108, 3) := by decide +kernel
theorem dX6_note_30 : decode cX6_note 30 = .ok (.aload_n 0, 1) := by decide +kernel
theorem dX6_note_31 : decode cX6_note 31 = .ok (.getfield 23, 3) := by decide +kernel
theorem dX6_note_34 : decode cX6_note 34 = .ok (.bipush 39, 2) := by decide +kernel
theorem dX6_note_36 : decode cX6_note 36 = .ok (.dup2, 1) := by decide +kernel
theorem dX6_note_37 : decode cX6_note 37 = .ok (.iaload, 1) := by decide +kernel
theorem dX6_note_38 : decode cX6_note 38 = .ok (.iconst 1, 1) := by decide +kernel
theorem dX6_note_39 : decode cX6_note 39 = .ok (.isub, 1) := by decide +kernel
theorem dX6_note_40 : decode cX6_note 40 = .ok (.iastore, 1) := by decide +kernel
theorem dX6_note_41 : decode cX6_note 41 = .ok (.aload_n 0, 1) := by decide +kernel
theorem dX6_note_42 : decode cX6_note 42 = .ok (.getfield 23, 3) := by decide +kernel
theorem dX6_note_45 : decode cX6_note 45 = .ok (.iconst 0, 1) := by decide +kernel
theorem dX6_note_46 : decode cX6_note 46 = .ok (.aload_n 0, 1) := by decide +kernel
theorem dX6_note_47 : decode cX6_note 47 = .ok (.getfield 23, 3) := by decide +kernel
theorem dX6_note_50 : decode cX6_note 50 = .ok (.bipush 40, 2) := by decide +kernel
theorem dX6_note_52 : decode cX6_note 52 = .ok (.bipush 22, 2) := by decide +kernel
theorem dX6_note_54 : decode cX6_note 54 = .ok (.aload_n 0, 1) := by decide +kernel
theorem dX6_note_55 : decode cX6_note 55 = .ok (.getfield 23, 3) := by decide +kernel
theorem dX6_note_58 : decode cX6_note 58 = .ok (.bipush 39, 2) := by decide +kernel
theorem dX6_note_60 : decode cX6_note 60 = .ok (.iaload, 1) := by decide +kernel
theorem dX6_note_61 : decode cX6_note 61 = .ok (.imul, 1) := by decide +kernel
theorem dX6_note_62 : decode cX6_note 62 = .ok (.iadd, 1) := by decide +kernel
theorem dX6_note_63 : decode cX6_note 63 = .ok (.bipush 22, 2) := by decide +kernel
theorem dX6_note_65 : decode cX6_note 65 = .ok (.invokestatic 108, 3) := by decide +kernel
theorem dX6_note_68 : decode cX6_note 68 = .ok (.aload_n 0, 1) := by decide +kernel
theorem dX6_note_69 : decode cX6_note 69 = .ok (.getfield 23, 3) := by decide +kernel
theorem dX6_note_72 : decode cX6_note 72 = .ok (.bipush 39, 2) := by decide +kernel
theorem dX6_note_74 : decode cX6_note 74 = .ok (.dup2, 1) := by decide +kernel
theorem dX6_note_75 : decode cX6_note 75 = .ok (.iaload, 1) := by decide +kernel
theorem dX6_note_76 : decode cX6_note 76 = .ok (.iconst 1, 1) := by decide +kernel
theorem dX6_note_77 : decode cX6_note 77 = .ok (.iadd, 1) := by decide +kernel
theorem dX6_note_78 : decode cX6_note 78 = .ok (.iastore, 1) := by decide +kernel
theorem dX6_note_79 : decode cX6_note 79 = .ok (.return_, 1) := by decide +kernel
theorem dX6_dearerBy_0 : decode cX6_dearerBy 0 = .ok (.iload_n 1, 1) := by decide +kernel
theorem dX6_dearerBy_1 : decode cX6_dearerBy 1 = .ok (.istore 4, 2) := by decide +kernel
theorem dX6_dearerBy_3 : decode cX6_dearerBy 3 = .ok (.iload_n 0, 1) := by decide +kernel
theorem dX6_dearerBy_4 : decode cX6_dearerBy 4 = .ok (.tableswitch 66 0 3 #[32, 40, 66, 48], 32) := by decide +kernel
theorem dX6_dearerBy_36 : decode cX6_dearerBy 36 = .ok (.iload_n 1, 1) := by decide +kernel
theorem dX6_dearerBy_37 : decode cX6_dearerBy 37 = .ok (.iconst 2, 1) := by decide +kernel
theorem dX6_dearerBy_38 : decode cX6_dearerBy 38 = .ok (.iadd, 1) := by decide +kernel
theorem dX6_dearerBy_39 : decode cX6_dearerBy 39 = .ok (.istore 4, 2) := by decide +kernel
theorem dX6_dearerBy_41 : decode cX6_dearerBy 41 = .ok (.goto 45, 3) := by decide +kernel
theorem dX6_dearerBy_44 : decode cX6_dearerBy 44 = .ok (.iload_n 1, 1) := by decide +kernel
theorem dX6_dearerBy_45 : decode cX6_dearerBy 45 = .ok (.iconst 4, 1) := by decide +kernel
theorem dX6_dearerBy_46 : decode cX6_dearerBy 46 = .ok (.iadd, 1) := by decide +kernel
theorem dX6_dearerBy_47 : decode cX6_dearerBy 47 = .ok (.istore 4, 2) := by decide +kernel
theorem dX6_dearerBy_49 : decode cX6_dearerBy 49 = .ok (.goto 37, 3) := by decide +kernel
theorem dX6_dearerBy_52 : decode cX6_dearerBy 52 = .ok (.iload_n 1, 1) := by decide +kernel
theorem dX6_dearerBy_53 : decode cX6_dearerBy 53 = .ok (.iconst 4, 1) := by decide +kernel
theorem dX6_dearerBy_54 : decode cX6_dearerBy 54 = .ok (.iadd, 1) := by decide +kernel
theorem dX6_dearerBy_55 : decode cX6_dearerBy 55 = .ok (.iload_n 2, 1) := by decide +kernel
theorem dX6_dearerBy_56 : decode cX6_dearerBy 56 = .ok (.ifCond .eq 7, 3) := by decide +kernel
theorem dX6_dearerBy_59 : decode cX6_dearerBy 59 = .ok (.iconst 3, 1) := by decide +kernel
theorem dX6_dearerBy_60 : decode cX6_dearerBy 60 = .ok (.goto 4, 3) := by decide +kernel
theorem dX6_dearerBy_63 : decode cX6_dearerBy 63 = .ok (.iconst 0, 1) := by decide +kernel
theorem dX6_dearerBy_64 : decode cX6_dearerBy 64 = .ok (.iadd, 1) := by decide +kernel
theorem dX6_dearerBy_65 : decode cX6_dearerBy 65 = .ok (.istore 4, 2) := by decide +kernel
theorem dX6_dearerBy_67 : decode cX6_dearerBy 67 = .ok (.goto 19, 3) := by decide +kernel
theorem dX6_dearerBy_70 : decode cX6_dearerBy 70 = .ok (.iload_n 1, 1) := by decide +kernel
theorem dX6_dearerBy_71 : decode cX6_dearerBy 71 = .ok (.iload_n 3, 1) := by decide +kernel
theorem dX6_dearerBy_72 : decode cX6_dearerBy 72 = .ok (.iconst 2, 1) := by decide +kernel
theorem dX6_dearerBy_73 : decode cX6_dearerBy 73 = .ok (.irem, 1) := by decide +kernel
theorem dX6_dearerBy_74 : decode cX6_dearerBy 74 = .ok (.iconst 1, 1) := by decide +kernel
theorem dX6_dearerBy_75 : decode cX6_dearerBy 75 = .ok (.if_icmp .ne 7, 3) := by decide +kernel
theorem dX6_dearerBy_78 : decode cX6_dearerBy 78 = .ok (.iconst 2, 1) := by decide +kernel
theorem dX6_dearerBy_79 : decode cX6_dearerBy 79 = .ok (.goto 4, 3) := by decide +kernel
theorem dX6_dearerBy_82 : decode cX6_dearerBy 82 = .ok (.iconst 0, 1) := by decide +kernel
theorem dX6_dearerBy_83 : decode cX6_dearerBy 83 = .ok (.iadd, 1) := by decide +kernel
theorem dX6_dearerBy_84 : decode cX6_dearerBy 84 = .ok (.istore 4, 2) := by decide +kernel
theorem dX6_dearerBy_86 : decode cX6_dearerBy 86 = .ok (.iload_n 0, 1) := by decide +kernel
theorem dX6_dearerBy_87 : decode cX6_dearerBy 87 = .ok (.iconst 4, 1) := by decide +kernel
theorem dX6_dearerBy_88 : decode cX6_dearerBy 88 = .ok (.if_icmp .ne 29, 3) := by decide +kernel
theorem dX6_dearerBy_91 : decode cX6_dearerBy 91 = .ok (.iload_n 1, 1) := by decide +kernel
theorem dX6_dearerBy_92 : decode cX6_dearerBy 92 = .ok (.bipush 6, 2) := by decide +kernel
theorem dX6_dearerBy_94 : decode cX6_dearerBy 94 = .ok (.if_icmp .lt 7, 3) := by decide +kernel
theorem dX6_dearerBy_97 : decode cX6_dearerBy 97 = .ok (.iload_n 1, 1) := by decide +kernel
theorem dX6_dearerBy_98 : decode cX6_dearerBy 98 = .ok (.goto 17, 3) := by decide +kernel
theorem dX6_dearerBy_101 : decode cX6_dearerBy 101 = .ok (.iload 4, 2) := by decide +kernel
theorem dX6_dearerBy_103 : decode cX6_dearerBy 103 = .ok (.bipush 6, 2) := by decide +kernel
theorem dX6_dearerBy_105 : decode cX6_dearerBy 105 = .ok (.if_icmp .le 8, 3) := by decide +kernel
theorem dX6_dearerBy_108 : decode cX6_dearerBy 108 = .ok (.bipush 6, 2) := by decide +kernel
theorem dX6_dearerBy_110 : decode cX6_dearerBy 110 = .ok (.goto 5, 3) := by decide +kernel
theorem dX6_dearerBy_113 : decode cX6_dearerBy 113 = .ok (.iload 4, 2) := by decide +kernel
theorem dX6_dearerBy_115 : decode cX6_dearerBy 115 = .ok (.istore 4, 2) := by decide +kernel
theorem dX6_dearerBy_117 : decode cX6_dearerBy 117 = .ok (.iload 4, 2) := by decide +kernel
theorem dX6_dearerBy_119 : decode cX6_dearerBy 119 = .ok (.bipush 99, 2) := by decide +kernel
theorem dX6_dearerBy_121 : decode cX6_dearerBy 121 = .ok (.if_icmp .le 8, 3) := by decide +kernel
theorem dX6_dearerBy_124 : decode cX6_dearerBy 124 = .ok (.bipush 99, 2) := by decide +kernel
theorem dX6_dearerBy_126 : decode cX6_dearerBy 126 = .ok (.goto 5, 3) := by decide +kernel
theorem dX6_dearerBy_129 : decode cX6_dearerBy 129 = .ok (.iload 4, 2) := by decide +kernel
theorem dX6_dearerBy_131 : decode cX6_dearerBy 131 = .ok (.ireturn, 1) := by decide +kernel
theorem dX6_dearest_0 : decode cX6_dearest 0 = .ok (.bipush (-4), 2) := by decide +kernel
theorem dX6_dearest_2 : decode cX6_dearest 2 = .ok (.istore_n 3, 1) := by decide +kernel
theorem dX6_dearest_3 : decode cX6_dearest 3 = .ok (.iconst 0, 1) := by decide +kernel
theorem dX6_dearest_4 : decode cX6_dearest 4 = .ok (.istore 4, 2) := by decide +kernel
theorem dX6_dearest_6 : decode cX6_dearest 6 = .ok (.iload 4, 2) := by decide +kernel
theorem dX6_dearest_8 : decode cX6_dearest 8 = .ok (.aload_n 0, 1) := by decide +kernel
theorem dX6_dearest_9 : decode cX6_dearest 9 = .ok (.bipush 23, 2) := by decide +kernel
theorem dX6_dearest_11 : decode cX6_dearest 11 = .ok (.iaload, 1) := by decide +kernel
theorem dX6_dearest_12 : decode cX6_dearest 12 = .ok (.if_icmp .ge 67, 3) := by decide +kernel
theorem dX6_dearest_15 : decode cX6_dearest 15 = .ok (.aload_n 0, 1) := by decide +kernel
theorem dX6_dearest_16 : decode cX6_dearest 16 = .ok (.iload_n 1, 1) := by decide +kernel
theorem dX6_dearest_17 : decode cX6_dearest 17 = .ok (.iload 4, 2) := by decide +kernel
theorem dX6_dearest_19 : decode cX6_dearest 19 = .ok (.invokestatic 54, 3) := by decide +kernel
theorem dX6_dearest_22 : decode cX6_dearest 22 = .ok (.ifCond .eq 16, 3) := by decide +kernel
theorem dX6_dearest_25 : decode cX6_dearest 25 = .ok (.iload_n 2, 1) := by decide +kernel
theorem dX6_dearest_26 : decode cX6_dearest 26 = .ok (.iload 4, 2) := by decide +kernel
theorem dX6_dearest_28 : decode cX6_dearest 28 = .ok (.invokestatic 50, 3) := by decide +kernel
theorem dX6_dearest_31 : decode cX6_dearest 31 = .ok (.ifCond .ne 7, 3) := by decide +kernel
theorem dX6_dearest_34 : decode cX6_dearest 34 = .ok (.iconst 1, 1) := by decide +kernel
theorem dX6_dearest_35 : decode cX6_dearest 35 = .ok (.goto 4, 3) := by decide +kernel
theorem dX6_dearest_38 : decode cX6_dearest 38 = .ok (.iconst 0, 1) := by decide +kernel
theorem dX6_dearest_39 : decode cX6_dearest 39 = .ok (.istore 5, 2) := by decide +kernel
theorem dX6_dearest_41 : decode cX6_dearest 41 = .ok (.iload 5, 2) := by decide +kernel
theorem dX6_dearest_43 : decode cX6_dearest 43 = .ok (.ifCond .eq 28, 3) := by decide +kernel
theorem dX6_dearest_46 : decode cX6_dearest 46 = .ok (.iload_n 3, 1) := by decide +kernel
theorem dX6_dearest_47 : decode cX6_dearest 47 = .ok (.bipush (-4), 2) := by decide +kernel
theorem dX6_dearest_49 : decode cX6_dearest 49 = .ok (.if_icmp .eq 17, 3) := by decide +kernel
theorem dX6_dearest_52 : decode cX6_dearest 52 = .ok (.aload_n 0, 1) := by decide +kernel
theorem dX6_dearest_53 : decode cX6_dearest 53 = .ok (.iconst 2, 1) := by decide +kernel
theorem dX6_dearest_54 : decode cX6_dearest 54 = .ok (.iload 4, 2) := by decide +kernel
theorem dX6_dearest_56 : decode cX6_dearest 56 = .ok (.iadd, 1) := by decide +kernel
theorem dX6_dearest_57 : decode cX6_dearest 57 = .ok (.iaload, 1) := by decide +kernel
theorem dX6_dearest_58 : decode cX6_dearest 58 = .ok (.aload_n 0, 1) := by decide +kernel
theorem dX6_dearest_59 : decode cX6_dearest 59 = .ok (.iconst 2, 1) := by decide +kernel
theorem dX6_dearest_60 : decode cX6_dearest 60 = .ok (.iload_n 3, 1) := by decide +kernel
theorem dX6_dearest_61 : decode cX6_dearest 61 = .ok (.iadd, 1) := by decide +kernel
theorem dX6_dearest_62 : decode cX6_dearest 62 = .ok (.iaload, 1) := by decide +kernel
theorem dX6_dearest_63 : decode cX6_dearest 63 = .ok (.if_icmp .le 8, 3) := by decide +kernel
theorem dX6_dearest_66 : decode cX6_dearest 66 = .ok (.iload 4, 2) := by decide +kernel
theorem dX6_dearest_68 : decode cX6_dearest 68 = .ok (.goto 4, 3) := by decide +kernel
theorem dX6_dearest_71 : decode cX6_dearest 71 = .ok (.iload_n 3, 1) := by decide +kernel
theorem dX6_dearest_72 : decode cX6_dearest 72 = .ok (.istore_n 3, 1) := by decide +kernel
theorem dX6_dearest_73 : decode cX6_dearest 73 = .ok (.iinc 4 1, 3) := by decide +kernel
theorem dX6_dearest_76 : decode cX6_dearest 76 = .ok (.goto (-70), 3) := by decide +kernel
theorem dX6_dearest_79 : decode cX6_dearest 79 = .ok (.iload_n 3, 1) := by decide +kernel
theorem dX6_dearest_80 : decode cX6_dearest 80 = .ok (.ireturn, 1) := by decide +kernel
theorem dX6_robIn_0 : decode cX6_robIn 0 = .ok (.iconst 0, 1) := by decide +kernel
theorem dX6_robIn_1 : decode cX6_robIn 1 = .ok (.istore_n 3, 1) := by decide +kernel
theorem dX6_robIn_2 : decode cX6_robIn 2 = .ok (.iconst 0, 1) := by decide +kernel
theorem dX6_robIn_3 : decode cX6_robIn 3 = .ok (.istore 4, 2) := by decide +kernel
theorem dX6_robIn_5 : decode cX6_robIn 5 = .ok (.iload 4, 2) := by decide +kernel
theorem dX6_robIn_7 : decode cX6_robIn 7 = .ok (.aload_n 1, 1) := by decide +kernel
theorem dX6_robIn_8 : decode cX6_robIn 8 = .ok (.bipush 30, 2) := by decide +kernel
theorem dX6_robIn_10 : decode cX6_robIn 10 = .ok (.iaload, 1) := by decide +kernel
theorem dX6_robIn_11 : decode cX6_robIn 11 = .ok (.if_icmp .ge 119, 3) := by decide +kernel
theorem dX6_robIn_14 : decode cX6_robIn 14 = .ok (.aload_n 0, 1) := by decide +kernel
theorem dX6_robIn_15 : decode cX6_robIn 15 = .ok (.getfield 35, 3) := by decide +kernel
theorem dX6_robIn_18 : decode cX6_robIn 18 = .ok (.iload 4, 2) := by decide +kernel
theorem dX6_robIn_20 : decode cX6_robIn 20 = .ok (.iload_n 2, 1) := by decide +kernel
theorem dX6_robIn_21 : decode cX6_robIn 21 = .ok (.iload 4, 2) := by decide +kernel
theorem dX6_robIn_23 : decode cX6_robIn 23 = .ok (.invokestatic 50, 3) := by decide +kernel
theorem dX6_robIn_26 : decode cX6_robIn 26 = .ok (.ifCond .eq 8, 3) := by decide +kernel
theorem dX6_robIn_29 : decode cX6_robIn 29 = .ok (.bipush (-4), 2) := by decide +kernel
theorem dX6_robIn_31 : decode cX6_robIn 31 = .ok (.goto 10, 3) := by decide +kernel
theorem dX6_robIn_34 : decode cX6_robIn 34 = .ok (.aload_n 1, 1) := by decide +kernel
theorem dX6_robIn_35 : decode cX6_robIn 35 = .ok (.iload 4, 2) := by decide +kernel
theorem dX6_robIn_37 : decode cX6_robIn 37 = .ok (.iload_n 3, 1) := by decide +kernel
theorem dX6_robIn_38 : decode cX6_robIn 38 = .ok (.invokestatic 112, 3) := by decide +kernel
theorem dX6_robIn_41 : decode cX6_robIn 41 = .ok (.iastore, 1) := by decide +kernel
theorem dX6_robIn_42 : decode cX6_robIn 42 = .ok (.aload_n 0, 1) := by decide +kernel
theorem dX6_robIn_43 : decode cX6_robIn 43 = .ok (.getfield 35, 3) := by decide +kernel
theorem dX6_robIn_46 : decode cX6_robIn 46 = .ok (.iload 4, 2) := by decide +kernel
theorem dX6_robIn_48 : decode cX6_robIn 48 = .ok (.iaload, 1) := by decide +kernel
theorem dX6_robIn_49 : decode cX6_robIn 49 = .ok (.bipush (-4), 2) := by decide +kernel
theorem dX6_robIn_51 : decode cX6_robIn 51 = .ok (.if_icmp .eq 73, 3) := by decide +kernel
theorem dX6_robIn_54 : decode cX6_robIn 54 = .ok (.aload_n 0, 1) := by decide +kernel
theorem dX6_robIn_55 : decode cX6_robIn 55 = .ok (.getfield 35, 3) := by decide +kernel
theorem dX6_robIn_58 : decode cX6_robIn 58 = .ok (.iload 4, 2) := by decide +kernel
theorem dX6_robIn_60 : decode cX6_robIn 60 = .ok (.iaload, 1) := by decide +kernel
theorem dX6_robIn_61 : decode cX6_robIn 61 = .ok (.istore 5, 2) := by decide +kernel
theorem dX6_robIn_63 : decode cX6_robIn 63 = .ok (.iload_n 3, 1) := by decide +kernel
theorem dX6_robIn_64 : decode cX6_robIn 64 = .ok (.iconst 1, 1) := by decide +kernel
theorem dX6_robIn_65 : decode cX6_robIn 65 = .ok (.iload 5, 2) := by decide +kernel
theorem dX6_robIn_67 : decode cX6_robIn 67 = .ok (.ishl, 1) := by decide +kernel
theorem dX6_robIn_68 : decode cX6_robIn 68 = .ok (.ior, 1) := by decide +kernel
theorem dX6_robIn_69 : decode cX6_robIn 69 = .ok (.istore_n 3, 1) := by decide +kernel
theorem dX6_robIn_70 : decode cX6_robIn 70 = .ok (.aload_n 1, 1) := by decide +kernel
theorem dX6_robIn_71 : decode cX6_robIn 71 = .ok (.iconst 2, 1) := by decide +kernel
theorem dX6_robIn_72 : decode cX6_robIn 72 = .ok (.iload 5, 2) := by decide +kernel
theorem dX6_robIn_74 : decode cX6_robIn 74 = .ok (.iadd, 1) := by decide +kernel
theorem dX6_robIn_75 : decode cX6_robIn 75 = .ok (.iaload, 1) := by decide +kernel
theorem dX6_robIn_76 : decode cX6_robIn 76 = .ok (.aload_n 1, 1) := by decide +kernel
theorem dX6_robIn_77 : decode cX6_robIn 77 = .ok (.bipush 22, 2) := by decide +kernel
theorem dX6_robIn_79 : decode cX6_robIn 79 = .ok (.iaload, 1) := by decide +kernel
theorem dX6_robIn_80 : decode cX6_robIn 80 = .ok (.if_icmp .lt 19, 3) := by decide +kernel
theorem dX6_robIn_83 : decode cX6_robIn 83 = .ok (.aload_n 1, 1) := by decide +kernel
theorem dX6_robIn_84 : decode cX6_robIn 84 = .ok (.bipush 21, 2) := by decide +kernel
theorem dX6_robIn_86 : decode cX6_robIn 86 = .ok (.aload_n 1, 1) := by decide +kernel
theorem dX6_robIn_87 : decode cX6_robIn 87 = .ok (.bipush 21, 2) := by decide +kernel
theorem dX6_robIn_89 : decode cX6_robIn 89 = .ok (.iaload, 1) := by decide +kernel
theorem dX6_robIn_90 : decode cX6_robIn 90 = .ok (.iconst 1, 1) := by decide +kernel
theorem dX6_robIn_91 : decode cX6_robIn 91 = .ok (.iload 5, 2) := by decide +kernel
theorem dX6_robIn_93 : decode cX6_robIn 93 = .ok (.ishl, 1) := by decide +kernel
theorem dX6_robIn_94 : decode cX6_robIn 94 = .ok (.ior, 1) := by decide +kernel
theorem dX6_robIn_95 : decode cX6_robIn 95 = .ok (.iastore, 1) := by decide +kernel
theorem dX6_robIn_96 : decode cX6_robIn 96 = .ok (.goto 28, 3) := by decide +kernel
theorem dX6_robIn_99 : decode cX6_robIn 99 = .ok (.aload_n 1, 1) := by decide +kernel
theorem dX6_robIn_100 : decode cX6_robIn 100 = .ok (.bipush 8, 2) := by decide +kernel
theorem dX6_robIn_102 : decode cX6_robIn 102 = .ok (.iload 5, 2) := by decide +kernel
theorem dX6_robIn_104 : decode cX6_robIn 104 = .ok (.iadd, 1) := by decide +kernel
theorem dX6_robIn_105 : decode cX6_robIn 105 = .ok (.aload_n 1, 1) := by decide +kernel
theorem dX6_robIn_106 : decode cX6_robIn 106 = .ok (.bipush 8, 2) := by decide +kernel
theorem dX6_robIn_108 : decode cX6_robIn 108 = .ok (.iload 5, 2) := by decide +kernel
theorem dX6_robIn_110 : decode cX6_robIn 110 = .ok (.iadd, 1) := by decide +kernel
theorem dX6_robIn_111 : decode cX6_robIn 111 = .ok (.iaload, 1) := by decide +kernel
theorem dX6_robIn_112 : decode cX6_robIn 112 = .ok (.iconst 1, 1) := by decide +kernel
theorem dX6_robIn_113 : decode cX6_robIn 113 = .ok (.iadd, 1) := by decide +kernel
theorem dX6_robIn_114 : decode cX6_robIn 114 = .ok (.iconst 4, 1) := by decide +kernel
theorem dX6_robIn_115 : decode cX6_robIn 115 = .ok (.irem, 1) := by decide +kernel
theorem dX6_robIn_116 : decode cX6_robIn 116 = .ok (.iastore, 1) := by decide +kernel
theorem dX6_robIn_117 : decode cX6_robIn 117 = .ok (.aload_n 1, 1) := by decide +kernel
theorem dX6_robIn_118 : decode cX6_robIn 118 = .ok (.iconst 2, 1) := by decide +kernel
theorem dX6_robIn_119 : decode cX6_robIn 119 = .ok (.iload 5, 2) := by decide +kernel
theorem dX6_robIn_121 : decode cX6_robIn 121 = .ok (.iadd, 1) := by decide +kernel
theorem dX6_robIn_122 : decode cX6_robIn 122 = .ok (.iconst 0, 1) := by decide +kernel
theorem dX6_robIn_123 : decode cX6_robIn 123 = .ok (.iastore, 1) := by decide +kernel
theorem dX6_robIn_124 : decode cX6_robIn 124 = .ok (.iinc 4 1, 3) := by decide +kernel
theorem dX6_robIn_127 : decode cX6_robIn 127 = .ok (.goto (-122), 3) := by decide +kernel
theorem dX6_robIn_130 : decode cX6_robIn 130 = .ok (.iload_n 3, 1) := by decide +kernel
theorem dX6_robIn_131 : decode cX6_robIn 131 = .ok (.ireturn, 1) := by decide +kernel
theorem dX6_nightIn_0 : decode cX6_nightIn 0 = .ok (.aload_n 0, 1) := by decide +kernel
theorem dX6_nightIn_1 : decode cX6_nightIn 1 = .ok (.aload_n 1, 1) := by decide +kernel
theorem dX6_nightIn_2 : decode cX6_nightIn 2 = .ok (.iload_n 2, 1) := by decide +kernel
theorem dX6_nightIn_3 : decode cX6_nightIn 3 = .ok (.invokevirtual 115, 3) := by decide +kernel
theorem dX6_nightIn_6 : decode cX6_nightIn 6 = .ok (.istore_n 3, 1) := by decide +kernel
theorem dX6_nightIn_7 : decode cX6_nightIn 7 = .ok (.iconst 0, 1) := by decide +kernel
theorem dX6_nightIn_8 : decode cX6_nightIn 8 = .ok (.istore 4, 2) := by decide +kernel
theorem dX6_nightIn_10 : decode cX6_nightIn 10 = .ok (.iload 4, 2) := by decide +kernel
theorem dX6_nightIn_12 : decode cX6_nightIn 12 = .ok (.aload_n 1, 1) := by decide +kernel
theorem dX6_nightIn_13 : decode cX6_nightIn 13 = .ok (.bipush 23, 2) := by decide +kernel
theorem dX6_nightIn_15 : decode cX6_nightIn 15 = .ok (.iaload, 1) := by decide +kernel
theorem dX6_nightIn_16 : decode cX6_nightIn 16 = .ok (.if_icmp .ge 85, 3) := by decide +kernel
theorem dX6_nightIn_19 : decode cX6_nightIn 19 = .ok (.aload_n 1, 1) := by decide +kernel
theorem dX6_nightIn_20 : decode cX6_nightIn 20 = .ok (.bipush 21, 2) := by decide +kernel
theorem dX6_nightIn_22 : decode cX6_nightIn 22 = .ok (.iaload, 1) := by decide +kernel
theorem dX6_nightIn_23 : decode cX6_nightIn 23 = .ok (.iload 4, 2) := by decide +kernel
theorem dX6_nightIn_25 : decode cX6_nightIn 25 = .ok (.invokestatic 50, 3) := by decide +kernel
theorem dX6_nightIn_28 : decode cX6_nightIn 28 = .ok (.ifCond .ne 16, 3) := by decide +kernel
theorem dX6_nightIn_31 : decode cX6_nightIn 31 = .ok (.iload_n 3, 1) := by decide +kernel
theorem dX6_nightIn_32 : decode cX6_nightIn 32 = .ok (.iload 4, 2) := by decide +kernel
theorem dX6_nightIn_34 : decode cX6_nightIn 34 = .ok (.invokestatic 50, 3) := by decide +kernel
theorem dX6_nightIn_37 : decode cX6_nightIn 37 = .ok (.ifCond .ne 7, 3) := by decide +kernel
theorem dX6_nightIn_40 : decode cX6_nightIn 40 = .ok (.iconst 1, 1) := by decide +kernel
theorem dX6_nightIn_41 : decode cX6_nightIn 41 = .ok (.goto 4, 3) := by decide +kernel
theorem dX6_nightIn_44 : decode cX6_nightIn 44 = .ok (.iconst 0, 1) := by decide +kernel
theorem dX6_nightIn_45 : decode cX6_nightIn 45 = .ok (.istore 5, 2) := by decide +kernel
theorem dX6_nightIn_47 : decode cX6_nightIn 47 = .ok (.aload_n 1, 1) := by decide +kernel
theorem dX6_nightIn_48 : decode cX6_nightIn 48 = .ok (.iconst 2, 1) := by decide +kernel
theorem dX6_nightIn_49 : decode cX6_nightIn 49 = .ok (.iload 4, 2) := by decide +kernel
theorem dX6_nightIn_51 : decode cX6_nightIn 51 = .ok (.iadd, 1) := by decide +kernel
theorem dX6_nightIn_52 : decode cX6_nightIn 52 = .ok (.iload 5, 2) := by decide +kernel
theorem dX6_nightIn_54 : decode cX6_nightIn 54 = .ok (.ifCond .eq 34, 3) := by decide +kernel
theorem dX6_nightIn_57 : decode cX6_nightIn 57 = .ok (.aload_n 1, 1) := by decide +kernel
theorem dX6_nightIn_58 : decode cX6_nightIn 58 = .ok (.bipush 24, 2) := by decide +kernel
theorem dX6_nightIn_60 : decode cX6_nightIn 60 = .ok (.iload 4, 2) := by decide +kernel
theorem dX6_nightIn_62 : decode cX6_nightIn 62 = .ok (.iadd, 1) := by decide +kernel
theorem dX6_nightIn_63 : decode cX6_nightIn 63 = .ok (.iaload, 1) := by decide +kernel
theorem dX6_nightIn_64 : decode cX6_nightIn 64 = .ok (.aload_n 1, 1) := by decide +kernel
theorem dX6_nightIn_65 : decode cX6_nightIn 65 = .ok (.iconst 2, 1) := by decide +kernel
theorem dX6_nightIn_66 : decode cX6_nightIn 66 = .ok (.iload 4, 2) := by decide +kernel
theorem dX6_nightIn_68 : decode cX6_nightIn 68 = .ok (.iadd, 1) := by decide +kernel
theorem dX6_nightIn_69 : decode cX6_nightIn 69 = .ok (.iaload, 1) := by decide +kernel
theorem dX6_nightIn_70 : decode cX6_nightIn 70 = .ok (.aload_n 1, 1) := by decide +kernel
theorem dX6_nightIn_71 : decode cX6_nightIn 71 = .ok (.bipush 20, 2) := by decide +kernel
theorem dX6_nightIn_73 : decode cX6_nightIn 73 = .ok (.iaload, 1) := by decide +kernel
theorem dX6_nightIn_74 : decode cX6_nightIn 74 = .ok (.iload 4, 2) := by decide +kernel
theorem dX6_nightIn_76 : decode cX6_nightIn 76 = .ok (.invokestatic 50, 3) := by decide +kernel
theorem dX6_nightIn_79 : decode cX6_nightIn 79 = .ok (.aload_n 1, 1) := by decide +kernel
theorem dX6_nightIn_80 : decode cX6_nightIn 80 = .ok (.iconst 0, 1) := by decide +kernel
theorem dX6_nightIn_81 : decode cX6_nightIn 81 = .ok (.iaload, 1) := by decide +kernel
theorem dX6_nightIn_82 : decode cX6_nightIn 82 = .ok (.invokestatic 119, 3) := by decide +kernel
theorem dX6_nightIn_85 : decode cX6_nightIn 85 = .ok (.goto 9, 3) := by decide +kernel
theorem dX6_nightIn_88 : decode cX6_nightIn 88 = .ok (.aload_n 1, 1) := by decide +kernel
theorem dX6_nightIn_89 : decode cX6_nightIn 89 = .ok (.iconst 2, 1) := by decide +kernel
theorem dX6_nightIn_90 : decode cX6_nightIn 90 = .ok (.iload 4, 2) := by decide +kernel
theorem dX6_nightIn_92 : decode cX6_nightIn 92 = .ok (.iadd, 1) := by decide +kernel
theorem dX6_nightIn_93 : decode cX6_nightIn 93 = .ok (.iaload, 1) := by decide +kernel
theorem dX6_nightIn_94 : decode cX6_nightIn 94 = .ok (.iastore, 1) := by decide +kernel
theorem dX6_nightIn_95 : decode cX6_nightIn 95 = .ok (.iinc 4 1, 3) := by decide +kernel
theorem dX6_nightIn_98 : decode cX6_nightIn 98 = .ok (.goto (-88), 3) := by decide +kernel
theorem dX6_nightIn_101 : decode cX6_nightIn 101 = .ok (.aload_n 1, 1) := by decide +kernel
theorem dX6_nightIn_102 : decode cX6_nightIn 102 = .ok (.iconst 0, 1) := by decide +kernel
theorem dX6_nightIn_103 : decode cX6_nightIn 103 = .ok (.dup2, 1) := by decide +kernel
theorem dX6_nightIn_104 : decode cX6_nightIn 104 = .ok (.iaload, 1) := by decide +kernel
theorem dX6_nightIn_105 : decode cX6_nightIn 105 = .ok (.iconst 1, 1) := by decide +kernel
theorem dX6_nightIn_106 : decode cX6_nightIn 106 = .ok (.iadd, 1) := by decide +kernel
theorem dX6_nightIn_107 : decode cX6_nightIn 107 = .ok (.iastore, 1) := by decide +kernel
theorem dX6_nightIn_108 : decode cX6_nightIn 108 = .ok (.return_, 1) := by decide +kernel
theorem dX6_nights_0 : decode cX6_nights 0 = .ok (.iload_n 1, 1) := by decide +kernel
theorem dX6_nights_1 : decode cX6_nights 1 = .ok (.iconst 1, 1) := by decide +kernel
theorem dX6_nights_2 : decode cX6_nights 2 = .ok (.bipush 40, 2) := by decide +kernel
theorem dX6_nights_4 : decode cX6_nights 4 = .ok (.invokestatic 38, 3) := by decide +kernel
theorem dX6_nights_7 : decode cX6_nights 7 = .ok (.ifCond .ne 5, 3) := by decide +kernel
theorem dX6_nights_10 : decode cX6_nights 10 = .ok (.iconst (-1), 1) := by decide +kernel
theorem dX6_nights_11 : decode cX6_nights 11 = .ok (.ireturn, 1) := by decide +kernel
theorem dX6_nights_12 : decode cX6_nights 12 = .ok (.aload_n 0, 1) := by decide +kernel
theorem dX6_nights_13 : decode cX6_nights 13 = .ok (.getfield 23, 3) := by decide +kernel
theorem dX6_nights_16 : decode cX6_nights 16 = .ok (.iconst 0, 1) := by decide +kernel
theorem dX6_nights_17 : decode cX6_nights 17 = .ok (.iaload, 1) := by decide +kernel
theorem dX6_nights_18 : decode cX6_nights 18 = .ok (.iload_n 1, 1) := by decide +kernel
theorem dX6_nights_19 : decode cX6_nights 19 = .ok (.iadd, 1) := by decide +kernel
theorem dX6_nights_20 : decode cX6_nights 20 = .ok (.sipush 9999, 3) := by decide +kernel
theorem dX6_nights_23 : decode cX6_nights 23 = .ok (.if_icmp .le 6, 3) := by decide +kernel
theorem dX6_nights_26 : decode cX6_nights 26 = .ok (.bipush (-3), 2) := by decide +kernel
theorem dX6_nights_28 : decode cX6_nights 28 = .ok (.ireturn, 1) := by decide +kernel
theorem dX6_nights_29 : decode cX6_nights 29 = .ok (.iconst 0, 1) := by decide +kernel
theorem dX6_nights_30 : decode cX6_nights 30 = .ok (.istore_n 2, 1) := by decide +kernel
theorem dX6_nights_31 : decode cX6_nights 31 = .ok (.iload_n 2, 1) := by decide +kernel
theorem dX6_nights_32 : decode cX6_nights 32 = .ok (.iload_n 1, 1) := by decide +kernel
theorem dX6_nights_33 : decode cX6_nights 33 = .ok (.if_icmp .ge 22, 3) := by decide +kernel
theorem dX6_nights_36 : decode cX6_nights 36 = .ok (.aload_n 0, 1) := by decide +kernel
theorem dX6_nights_37 : decode cX6_nights 37 = .ok (.invokevirtual 123, 3) := by decide +kernel
theorem dX6_nights_40 : decode cX6_nights 40 = .ok (.aload_n 0, 1) := by decide +kernel
theorem dX6_nights_41 : decode cX6_nights 41 = .ok (.aload_n 0, 1) := by decide +kernel
theorem dX6_nights_42 : decode cX6_nights 42 = .ok (.getfield 23, 3) := by decide +kernel
theorem dX6_nights_45 : decode cX6_nights 45 = .ok (.iconst 0, 1) := by decide +kernel
theorem dX6_nights_46 : decode cX6_nights 46 = .ok (.invokevirtual 126, 3) := by decide +kernel
theorem dX6_nights_49 : decode cX6_nights 49 = .ok (.iinc 2 1, 3) := by decide +kernel
theorem dX6_nights_52 : decode cX6_nights 52 = .ok (.goto (-21), 3) := by decide +kernel
theorem dX6_nights_55 : decode cX6_nights 55 = .ok (.aload_n 0, 1) := by decide +kernel
theorem dX6_nights_56 : decode cX6_nights 56 = .ok (.getfield 23, 3) := by decide +kernel
theorem dX6_nights_59 : decode cX6_nights 59 = .ok (.bipush 21, 2) := by decide +kernel
theorem dX6_nights_61 : decode cX6_nights 61 = .ok (.iaload, 1) := by decide +kernel
theorem dX6_nights_62 : decode cX6_nights 62 = .ok (.ireturn, 1) := by decide +kernel
theorem dX6_setShows_0 : decode cX6_setShows 0 = .ok (.aload_n 0, 1) := by decide +kernel
theorem dX6_setShows_1 : decode cX6_setShows 1 = .ok (.bipush 20, 2) := by decide +kernel
theorem dX6_setShows_3 : decode cX6_setShows 3 = .ok (.iload_n 2, 1) := by decide +kernel
theorem dX6_setShows_4 : decode cX6_setShows 4 = .ok (.ifCond .eq 14, 3) := by decide +kernel
theorem dX6_setShows_7 : decode cX6_setShows 7 = .ok (.aload_n 0, 1) := by decide +kernel
theorem dX6_setShows_8 : decode cX6_setShows 8 = .ok (.bipush 20, 2) := by decide +kernel
theorem dX6_setShows_10 : decode cX6_setShows 10 = .ok (.iaload, 1) := by decide +kernel
theorem dX6_setShows_11 : decode cX6_setShows 11 = .ok (.iconst 1, 1) := by decide +kernel
theorem dX6_setShows_12 : decode cX6_setShows 12 = .ok (.iload_n 1, 1) := by decide +kernel
theorem dX6_setShows_13 : decode cX6_setShows 13 = .ok (.ishl, 1) := by decide +kernel
theorem dX6_setShows_14 : decode cX6_setShows 14 = .ok (.ior, 1) := by decide +kernel
theorem dX6_setShows_15 : decode cX6_setShows 15 = .ok (.goto 13, 3) := by decide +kernel
theorem dX6_setShows_18 : decode cX6_setShows 18 = .ok (.aload_n 0, 1) := by decide +kernel
theorem dX6_setShows_19 : decode cX6_setShows 19 = .ok (.bipush 20, 2) := by decide +kernel
theorem dX6_setShows_21 : decode cX6_setShows 21 = .ok (.iaload, 1) := by decide +kernel
theorem dX6_setShows_22 : decode cX6_setShows 22 = .ok (.iconst 1, 1) := by decide +kernel
theorem dX6_setShows_23 : decode cX6_setShows 23 = .ok (.iload_n 1, 1) := by decide +kernel
theorem dX6_setShows_24 : decode cX6_setShows 24 = .ok (.ishl, 1) := by decide +kernel
theorem dX6_setShows_25 : decode cX6_setShows 25 = .ok (.iconst (-1), 1) := by decide +kernel
theorem dX6_setShows_26 : decode cX6_setShows 26 = .ok (.ixor, 1) := by decide +kernel
theorem dX6_setShows_27 : decode cX6_setShows 27 = .ok (.iand, 1) := by decide +kernel
theorem dX6_setShows_28 : decode cX6_setShows 28 = .ok (.iastore, 1) := by decide +kernel
theorem dX6_setShows_29 : decode cX6_setShows 29 = .ok (.return_, 1) := by decide +kernel
theorem dX6_show_0 : decode cX6_show 0 = .ok (.aload_n 0, 1) := by decide +kernel
theorem dX6_show_1 : decode cX6_show 1 = .ok (.iload_n 1, 1) := by decide +kernel
theorem dX6_show_2 : decode cX6_show 2 = .ok (.invokevirtual 58, 3) := by decide +kernel
theorem dX6_show_5 : decode cX6_show 5 = .ok (.ifCond .eq 12, 3) := by decide +kernel
theorem dX6_show_8 : decode cX6_show 8 = .ok (.iload_n 2, 1) := by decide +kernel
theorem dX6_show_9 : decode cX6_show 9 = .ok (.iconst 0, 1) := by decide +kernel
theorem dX6_show_10 : decode cX6_show 10 = .ok (.iconst 1, 1) := by decide +kernel
theorem dX6_show_11 : decode cX6_show 11 = .ok (.invokestatic 38, 3) := by decide +kernel
theorem dX6_show_14 : decode cX6_show 14 = .ok (.ifCond .ne 5, 3) := by decide +kernel
theorem dX6_show_17 : decode cX6_show 17 = .ok (.iconst (-1), 1) := by decide +kernel
theorem dX6_show_18 : decode cX6_show 18 = .ok (.ireturn, 1) := by decide +kernel
theorem dX6_show_19 : decode cX6_show 19 = .ok (.aload_n 0, 1) := by decide +kernel
theorem dX6_show_20 : decode cX6_show 20 = .ok (.getfield 23, 3) := by decide +kernel
theorem dX6_show_23 : decode cX6_show 23 = .ok (.bipush 20, 2) := by decide +kernel
theorem dX6_show_25 : decode cX6_show 25 = .ok (.iaload, 1) := by decide +kernel
theorem dX6_show_26 : decode cX6_show 26 = .ok (.iload_n 1, 1) := by decide +kernel
theorem dX6_show_27 : decode cX6_show 27 = .ok (.ishr, 1) := by decide +kernel
theorem dX6_show_28 : decode cX6_show 28 = .ok (.iconst 1, 1) := by decide +kernel
theorem dX6_show_29 : decode cX6_show 29 = .ok (.iand, 1) := by decide +kernel
theorem dX6_show_30 : decode cX6_show 30 = .ok (.iload_n 2, 1) := by decide +kernel
theorem dX6_show_31 : decode cX6_show 31 = .ok (.if_icmp .eq 17, 3) := by decide +kernel
theorem dX6_show_34 : decode cX6_show 34 = .ok (.aload_n 0, 1) := by decide +kernel
theorem dX6_show_35 : decode cX6_show 35 = .ok (.getfield 23, 3) := by decide +kernel
theorem dX6_show_38 : decode cX6_show 38 = .ok (.bipush 21, 2) := by decide +kernel
theorem dX6_show_40 : decode cX6_show 40 = .ok (.iaload, 1) := by decide +kernel
theorem dX6_show_41 : decode cX6_show 41 = .ok (.iload_n 1, 1) := by decide +kernel
theorem dX6_show_42 : decode cX6_show 42 = .ok (.invokestatic 50, 3) := by decide +kernel
theorem dX6_show_45 : decode cX6_show 45 = .ok (.ifCond .eq 6, 3) := by decide +kernel
theorem dX6_show_48 : decode cX6_show 48 = .ok (.bipush (-2), 2) := by decide +kernel
theorem dX6_show_50 : decode cX6_show 50 = .ok (.ireturn, 1) := by decide +kernel
theorem dX6_show_51 : decode cX6_show 51 = .ok (.aload_n 0, 1) := by decide +kernel
theorem dX6_show_52 : decode cX6_show 52 = .ok (.invokevirtual 123, 3) := by decide +kernel
theorem dX6_show_55 : decode cX6_show 55 = .ok (.aload_n 0, 1) := by decide +kernel
theorem dX6_show_56 : decode cX6_show 56 = .ok (.getfield 23, 3) := by decide +kernel
theorem dX6_show_59 : decode cX6_show 59 = .ok (.iload_n 1, 1) := by decide +kernel
theorem dX6_show_60 : decode cX6_show 60 = .ok (.iload_n 2, 1) := by decide +kernel
theorem dX6_show_61 : decode cX6_show 61 = .ok (.iconst 1, 1) := by decide +kernel
theorem dX6_show_62 : decode cX6_show 62 = .ok (.if_icmp .ne 7, 3) := by decide +kernel
theorem dX6_show_65 : decode cX6_show 65 = .ok (.iconst 1, 1) := by decide +kernel
theorem dX6_show_66 : decode cX6_show 66 = .ok (.goto 4, 3) := by decide +kernel
theorem dX6_show_69 : decode cX6_show 69 = .ok (.iconst 0, 1) := by decide +kernel
theorem dX6_show_70 : decode cX6_show 70 = .ok (.invokestatic 130, 3) := by decide +kernel
theorem dX6_show_73 : decode cX6_show 73 = .ok (.aload_n 0, 1) := by decide +kernel
theorem dX6_show_74 : decode cX6_show 74 = .ok (.getfield 23, 3) := by decide +kernel
theorem dX6_show_77 : decode cX6_show 77 = .ok (.bipush 20, 2) := by decide +kernel
theorem dX6_show_79 : decode cX6_show 79 = .ok (.iaload, 1) := by decide +kernel
theorem dX6_show_80 : decode cX6_show 80 = .ok (.ireturn, 1) := by decide +kernel
theorem dX6_teach_0 : decode cX6_teach 0 = .ok (.aload_n 0, 1) := by decide +kernel
theorem dX6_teach_1 : decode cX6_teach 1 = .ok (.iload_n 1, 1) := by decide +kernel
theorem dX6_teach_2 : decode cX6_teach 2 = .ok (.invokevirtual 58, 3) := by decide +kernel
theorem dX6_teach_5 : decode cX6_teach 5 = .ok (.ifCond .eq 13, 3) := by decide +kernel
theorem dX6_teach_8 : decode cX6_teach 8 = .ok (.iload_n 2, 1) := by decide +kernel
theorem dX6_teach_9 : decode cX6_teach 9 = .ok (.iconst 0, 1) := by decide +kernel
theorem dX6_teach_10 : decode cX6_teach 10 = .ok (.bipush 9, 2) := by decide +kernel
theorem dX6_teach_12 : decode cX6_teach 12 = .ok (.invokestatic 38, 3) := by decide +kernel
theorem dX6_teach_15 : decode cX6_teach 15 = .ok (.ifCond .ne 5, 3) := by decide +kernel
theorem dX6_teach_18 : decode cX6_teach 18 = .ok (.iconst (-1), 1) := by decide +kernel
theorem dX6_teach_19 : decode cX6_teach 19 = .ok (.ireturn, 1) := by decide +kernel
theorem dX6_teach_20 : decode cX6_teach 20 = .ok (.aload_n 0, 1) := by decide +kernel
theorem dX6_teach_21 : decode cX6_teach 21 = .ok (.getfield 23, 3) := by decide +kernel
theorem dX6_teach_24 : decode cX6_teach 24 = .ok (.bipush 14, 2) := by decide +kernel
theorem dX6_teach_26 : decode cX6_teach 26 = .ok (.iload_n 1, 1) := by decide +kernel
theorem dX6_teach_27 : decode cX6_teach 27 = .ok (.iadd, 1) := by decide +kernel
theorem dX6_teach_28 : decode cX6_teach 28 = .ok (.iaload, 1) := by decide +kernel
theorem dX6_teach_29 : decode cX6_teach 29 = .ok (.istore_n 3, 1) := by decide +kernel
theorem dX6_teach_30 : decode cX6_teach 30 = .ok (.iload_n 3, 1) := by decide +kernel
theorem dX6_teach_31 : decode cX6_teach 31 = .ok (.iload_n 2, 1) := by decide +kernel
theorem dX6_teach_32 : decode cX6_teach 32 = .ok (.if_icmp .ne 6, 3) := by decide +kernel
theorem dX6_teach_35 : decode cX6_teach 35 = .ok (.bipush (-2), 2) := by decide +kernel
theorem dX6_teach_37 : decode cX6_teach 37 = .ok (.ireturn, 1) := by decide +kernel
theorem dX6_teach_38 : decode cX6_teach 38 = .ok (.aload_n 0, 1) := by decide +kernel
theorem dX6_teach_39 : decode cX6_teach 39 = .ok (.invokevirtual 123, 3) := by decide +kernel
theorem dX6_teach_42 : decode cX6_teach 42 = .ok (.aload_n 0, 1) := by decide +kernel
theorem dX6_teach_43 : decode cX6_teach 43 = .ok (.getfield 23, 3) := by decide +kernel
theorem dX6_teach_46 : decode cX6_teach 46 = .ok (.bipush 14, 2) := by decide +kernel
theorem dX6_teach_48 : decode cX6_teach 48 = .ok (.iload_n 1, 1) := by decide +kernel
theorem dX6_teach_49 : decode cX6_teach 49 = .ok (.iadd, 1) := by decide +kernel
theorem dX6_teach_50 : decode cX6_teach 50 = .ok (.iload_n 2, 1) := by decide +kernel
theorem dX6_teach_51 : decode cX6_teach 51 = .ok (.iastore, 1) := by decide +kernel
theorem dX6_teach_52 : decode cX6_teach 52 = .ok (.iload_n 3, 1) := by decide +kernel
theorem dX6_teach_53 : decode cX6_teach 53 = .ok (.ireturn, 1) := by decide +kernel
theorem dX6_drift_0 : decode cX6_drift 0 = .ok (.iload_n 1, 1) := by decide +kernel
theorem dX6_drift_1 : decode cX6_drift 1 = .ok (.iconst 1, 1) := by decide +kernel
theorem dX6_drift_2 : decode cX6_drift 2 = .ok (.bipush 40, 2) := by decide +kernel
theorem dX6_drift_4 : decode cX6_drift 4 = .ok (.invokestatic 38, 3) := by decide +kernel
theorem dX6_drift_7 : decode cX6_drift 7 = .ok (.ifCond .ne 5, 3) := by decide +kernel
theorem dX6_drift_10 : decode cX6_drift 10 = .ok (.iconst (-1), 1) := by decide +kernel
theorem dX6_drift_11 : decode cX6_drift 11 = .ok (.ireturn, 1) := by decide +kernel
theorem dX6_drift_12 : decode cX6_drift 12 = .ok (.aload_n 0, 1) := by decide +kernel
theorem dX6_drift_13 : decode cX6_drift 13 = .ok (.getfield 23, 3) := by decide +kernel
theorem dX6_drift_16 : decode cX6_drift 16 = .ok (.iconst 0, 1) := by decide +kernel
theorem dX6_drift_17 : decode cX6_drift 17 = .ok (.iaload, 1) := by decide +kernel
theorem dX6_drift_18 : decode cX6_drift 18 = .ok (.iload_n 1, 1) := by decide +kernel
theorem dX6_drift_19 : decode cX6_drift 19 = .ok (.iadd, 1) := by decide +kernel
theorem dX6_drift_20 : decode cX6_drift 20 = .ok (.sipush 9999, 3) := by decide +kernel
theorem dX6_drift_23 : decode cX6_drift 23 = .ok (.if_icmp .le 6, 3) := by decide +kernel
theorem dX6_drift_26 : decode cX6_drift 26 = .ok (.bipush (-3), 2) := by decide +kernel
theorem dX6_drift_28 : decode cX6_drift 28 = .ok (.ireturn, 1) := by decide +kernel
theorem dX6_drift_29 : decode cX6_drift 29 = .ok (.iconst 0, 1) := by decide +kernel
theorem dX6_drift_30 : decode cX6_drift 30 = .ok (.istore_n 2, 1) := by decide +kernel
theorem dX6_drift_31 : decode cX6_drift 31 = .ok (.iload_n 2, 1) := by decide +kernel
theorem dX6_drift_32 : decode cX6_drift 32 = .ok (.iload_n 1, 1) := by decide +kernel
theorem dX6_drift_33 : decode cX6_drift 33 = .ok (.if_icmp .ge 102, 3) := by decide +kernel
theorem dX6_drift_36 : decode cX6_drift 36 = .ok (.aload_n 0, 1) := by decide +kernel
theorem dX6_drift_37 : decode cX6_drift 37 = .ok (.invokevirtual 123, 3) := by decide +kernel
theorem dX6_drift_40 : decode cX6_drift 40 = .ok (.aload_n 0, 1) := by decide +kernel
theorem dX6_drift_41 : decode cX6_drift 41 = .ok (.getfield 23, 3) := by decide +kernel
theorem dX6_drift_44 : decode cX6_drift 44 = .ok (.iconst 1, 1) := by decide +kernel
theorem dX6_drift_45 : decode cX6_drift 45 = .ok (.aload_n 0, 1) := by decide +kernel
theorem dX6_drift_46 : decode cX6_drift 46 = .ok (.getfield 23, 3) := by decide +kernel
theorem dX6_drift_49 : decode cX6_drift 49 = .ok (.iconst 1, 1) := by decide +kernel
theorem dX6_drift_50 : decode cX6_drift 50 = .ok (.iaload, 1) := by decide +kernel
theorem dX6_drift_51 : decode cX6_drift 51 = .ok (.i2l, 1) := by decide +kernel
theorem dX6_drift_52 : decode cX6_drift 52 = .ok (.ldc2_w 134, 3) := by decide +kernel
theorem dX6_drift_55 : decode cX6_drift 55 = .ok (.lmul, 1) := by decide +kernel
theorem dX6_drift_56 : decode cX6_drift 56 = .ok (.ldc2_w 136, 3) := by decide +kernel
theorem dX6_drift_59 : decode cX6_drift 59 = .ok (.ladd, 1) := by decide +kernel
theorem dX6_drift_60 : decode cX6_drift 60 = .ok (.ldc2_w 138, 3) := by decide +kernel
theorem dX6_drift_63 : decode cX6_drift 63 = .ok (.lrem, 1) := by decide +kernel
theorem dX6_drift_64 : decode cX6_drift 64 = .ok (.l2i, 1) := by decide +kernel
theorem dX6_drift_65 : decode cX6_drift 65 = .ok (.iastore, 1) := by decide +kernel
theorem dX6_drift_66 : decode cX6_drift 66 = .ok (.aload_n 0, 1) := by decide +kernel
theorem dX6_drift_67 : decode cX6_drift 67 = .ok (.getfield 23, 3) := by decide +kernel
theorem dX6_drift_70 : decode cX6_drift 70 = .ok (.bipush 23, 2) := by decide +kernel
theorem dX6_drift_72 : decode cX6_drift 72 = .ok (.iaload, 1) := by decide +kernel
theorem dX6_drift_73 : decode cX6_drift 73 = .ok (.ifCond .le 47, 3) := by decide +kernel
theorem dX6_drift_76 : decode cX6_drift 76 = .ok (.aload_n 0, 1) := by decide +kernel
theorem dX6_drift_77 : decode cX6_drift 77 = .ok (.getfield 23, 3) := by decide +kernel
theorem dX6_drift_80 : decode cX6_drift 80 = .ok (.aload_n 0, 1) := by decide +kernel
theorem dX6_drift_81 : decode cX6_drift 81 = .ok (.getfield 23, 3) := by decide +kernel
theorem dX6_drift_84 : decode cX6_drift 84 = .ok (.iconst 1, 1) := by decide +kernel
theorem dX6_drift_85 : decode cX6_drift 85 = .ok (.iaload, 1) := by decide +kernel
theorem dX6_drift_86 : decode cX6_drift 86 = .ok (.ldc 140, 2) := by decide +kernel
theorem dX6_drift_88 : decode cX6_drift 88 = .ok (.idiv, 1) := by decide +kernel
theorem dX6_drift_89 : decode cX6_drift 89 = .ok (.aload_n 0, 1) := by decide +kernel
theorem dX6_drift_90 : decode cX6_drift 90 = .ok (.getfield 23, 3) := by decide +kernel
theorem dX6_drift_93 : decode cX6_drift 93 = .ok (.bipush 23, 2) := by decide +kernel
theorem dX6_drift_95 : decode cX6_drift 95 = .ok (.iaload, 1) := by decide +kernel
theorem dX6_drift_96 : decode cX6_drift 96 = .ok (.irem, 1) := by decide +kernel
theorem dX6_drift_97 : decode cX6_drift 97 = .ok (.aload_n 0, 1) := by decide +kernel
theorem dX6_drift_98 : decode cX6_drift 98 = .ok (.getfield 23, 3) := by decide +kernel
theorem dX6_drift_101 : decode cX6_drift 101 = .ok (.iconst 1, 1) := by decide +kernel
theorem dX6_drift_102 : decode cX6_drift 102 = .ok (.iaload, 1) := by decide +kernel
theorem dX6_drift_103 : decode cX6_drift 103 = .ok (.sipush 128, 3) := by decide +kernel
theorem dX6_drift_106 : decode cX6_drift 106 = .ok (.idiv, 1) := by decide +kernel
theorem dX6_drift_107 : decode cX6_drift 107 = .ok (.iconst 2, 1) := by decide +kernel
theorem dX6_drift_108 : decode cX6_drift 108 = .ok (.irem, 1) := by decide +kernel
theorem dX6_drift_109 : decode cX6_drift 109 = .ok (.ifCond .ne 7, 3) := by decide +kernel
theorem dX6_drift_112 : decode cX6_drift 112 = .ok (.iconst 1, 1) := by decide +kernel
theorem dX6_drift_113 : decode cX6_drift 113 = .ok (.goto 4, 3) := by decide +kernel
theorem dX6_drift_116 : decode cX6_drift 116 = .ok (.iconst 0, 1) := by decide +kernel
theorem dX6_drift_117 : decode cX6_drift 117 = .ok (.invokestatic 130, 3) := by decide +kernel
theorem dX6_drift_120 : decode cX6_drift 120 = .ok (.aload_n 0, 1) := by decide +kernel
theorem dX6_drift_121 : decode cX6_drift 121 = .ok (.aload_n 0, 1) := by decide +kernel
theorem dX6_drift_122 : decode cX6_drift 122 = .ok (.getfield 23, 3) := by decide +kernel
theorem dX6_drift_125 : decode cX6_drift 125 = .ok (.iconst 0, 1) := by decide +kernel
theorem dX6_drift_126 : decode cX6_drift 126 = .ok (.invokevirtual 126, 3) := by decide +kernel
theorem dX6_drift_129 : decode cX6_drift 129 = .ok (.iinc 2 1, 3) := by decide +kernel
theorem dX6_drift_132 : decode cX6_drift 132 = .ok (.goto (-101), 3) := by decide +kernel
theorem dX6_drift_135 : decode cX6_drift 135 = .ok (.aload_n 0, 1) := by decide +kernel
theorem dX6_drift_136 : decode cX6_drift 136 = .ok (.getfield 23, 3) := by decide +kernel
theorem dX6_drift_139 : decode cX6_drift 139 = .ok (.bipush 21, 2) := by decide +kernel
theorem dX6_drift_141 : decode cX6_drift 141 = .ok (.iaload, 1) := by decide +kernel
theorem dX6_drift_142 : decode cX6_drift 142 = .ok (.ireturn, 1) := by decide +kernel
theorem dX6_undo_0 : decode cX6_undo 0 = .ok (.aload_n 0, 1) := by decide +kernel
theorem dX6_undo_1 : decode cX6_undo 1 = .ok (.getfield 23, 3) := by decide +kernel
theorem dX6_undo_4 : decode cX6_undo 4 = .ok (.bipush 39, 2) := by decide +kernel
theorem dX6_undo_6 : decode cX6_undo 6 = .ok (.iaload, 1) := by decide +kernel
theorem dX6_undo_7 : decode cX6_undo 7 = .ok (.ifCond .ne 6, 3) := by decide +kernel
theorem dX6_undo_10 : decode cX6_undo 10 = .ok (.bipush (-4), 2) := by decide +kernel
theorem dX6_undo_12 : decode cX6_undo 12 = .ok (.ireturn, 1) := by decide +kernel
theorem dX6_undo_13 : decode cX6_undo 13 = .ok (.aload_n 0, 1) := by decide +kernel
theorem dX6_undo_14 : decode cX6_undo 14 = .ok (.getfield 23, 3) := by decide +kernel
theorem dX6_undo_17 : decode cX6_undo 17 = .ok (.bipush 39, 2) := by decide +kernel
theorem dX6_undo_19 : decode cX6_undo 19 = .ok (.dup2, 1) := by decide +kernel
theorem dX6_undo_20 : decode cX6_undo 20 = .ok (.iaload, 1) := by decide +kernel
theorem dX6_undo_21 : decode cX6_undo 21 = .ok (.iconst 1, 1) := by decide +kernel
theorem dX6_undo_22 : decode cX6_undo 22 = .ok (.isub, 1) := by decide +kernel
theorem dX6_undo_23 : decode cX6_undo 23 = .ok (.iastore, 1) := by decide +kernel
theorem dX6_undo_24 : decode cX6_undo 24 = .ok (.aload_n 0, 1) := by decide +kernel
theorem dX6_undo_25 : decode cX6_undo 25 = .ok (.getfield 23, 3) := by decide +kernel
theorem dX6_undo_28 : decode cX6_undo 28 = .ok (.bipush 40, 2) := by decide +kernel
theorem dX6_undo_30 : decode cX6_undo 30 = .ok (.bipush 22, 2) := by decide +kernel
theorem dX6_undo_32 : decode cX6_undo 32 = .ok (.aload_n 0, 1) := by decide +kernel
theorem dX6_undo_33 : decode cX6_undo 33 = .ok (.getfield 23, 3) := by decide +kernel
theorem dX6_undo_36 : decode cX6_undo 36 = .ok (.bipush 39, 2) := by decide +kernel
theorem dX6_undo_38 : decode cX6_undo 38 = .ok (.iaload, 1) := by decide +kernel
theorem dX6_undo_39 : decode cX6_undo 39 = .ok (.imul, 1) := by decide +kernel
theorem dX6_undo_40 : decode cX6_undo 40 = .ok (.iadd, 1) := by decide +kernel
theorem dX6_undo_41 : decode cX6_undo 41 = .ok (.aload_n 0, 1) := by decide +kernel
theorem dX6_undo_42 : decode cX6_undo 42 = .ok (.getfield 23, 3) := by decide +kernel
theorem dX6_undo_45 : decode cX6_undo 45 = .ok (.iconst 0, 1) := by decide +kernel
theorem dX6_undo_46 : decode cX6_undo 46 = .ok (.bipush 22, 2) := by decide +kernel
theorem dX6_undo_48 : decode cX6_undo 48 = .ok (.invokestatic 108, 3) := by decide +kernel
theorem dX6_undo_51 : decode cX6_undo 51 = .ok (.aload_n 0, 1) := by decide +kernel
theorem dX6_undo_52 : decode cX6_undo 52 = .ok (.getfield 23, 3) := by decide +kernel
theorem dX6_undo_55 : decode cX6_undo 55 = .ok (.bipush 39, 2) := by decide +kernel
theorem dX6_undo_57 : decode cX6_undo 57 = .ok (.iaload, 1) := by decide +kernel
theorem dX6_undo_58 : decode cX6_undo 58 = .ok (.ireturn, 1) := by decide +kernel
theorem dX6_seed_0 : decode cX6_seed 0 = .ok (.iload_n 1, 1) := by decide +kernel
theorem dX6_seed_1 : decode cX6_seed 1 = .ok (.ifCond .ge 5, 3) := by decide +kernel
theorem dX6_seed_4 : decode cX6_seed 4 = .ok (.iconst (-1), 1) := by decide +kernel
theorem dX6_seed_5 : decode cX6_seed 5 = .ok (.ireturn, 1) := by decide +kernel
theorem dX6_seed_6 : decode cX6_seed 6 = .ok (.aload_n 0, 1) := by decide +kernel
theorem dX6_seed_7 : decode cX6_seed 7 = .ok (.getfield 23, 3) := by decide +kernel
theorem dX6_seed_10 : decode cX6_seed 10 = .ok (.iconst 1, 1) := by decide +kernel
theorem dX6_seed_11 : decode cX6_seed 11 = .ok (.iaload, 1) := by decide +kernel
theorem dX6_seed_12 : decode cX6_seed 12 = .ok (.istore_n 2, 1) := by decide +kernel
theorem dX6_seed_13 : decode cX6_seed 13 = .ok (.aload_n 0, 1) := by decide +kernel
theorem dX6_seed_14 : decode cX6_seed 14 = .ok (.getfield 23, 3) := by decide +kernel
theorem dX6_seed_17 : decode cX6_seed 17 = .ok (.iconst 1, 1) := by decide +kernel
theorem dX6_seed_18 : decode cX6_seed 18 = .ok (.iload_n 1, 1) := by decide +kernel
theorem dX6_seed_19 : decode cX6_seed 19 = .ok (.iastore, 1) := by decide +kernel
theorem dX6_seed_20 : decode cX6_seed 20 = .ok (.iload_n 2, 1) := by decide +kernel
theorem dX6_seed_21 : decode cX6_seed 21 = .ok (.ireturn, 1) := by decide +kernel
theorem dX6_begin_0 : decode cX6_begin 0 = .ok (.aload_n 0, 1) := by decide +kernel
theorem dX6_begin_1 : decode cX6_begin 1 = .ok (.getfield 23, 3) := by decide +kernel
theorem dX6_begin_4 : decode cX6_begin 4 = .ok (.iconst 0, 1) := by decide +kernel
theorem dX6_begin_5 : decode cX6_begin 5 = .ok (.aload_n 0, 1) := by decide +kernel
theorem dX6_begin_6 : decode cX6_begin 6 = .ok (.getfield 26, 3) := by decide +kernel
theorem dX6_begin_9 : decode cX6_begin 9 = .ok (.iconst 0, 1) := by decide +kernel
theorem dX6_begin_10 : decode cX6_begin 10 = .ok (.sipush 216, 3) := by decide +kernel
theorem dX6_begin_13 : decode cX6_begin 13 = .ok (.invokestatic 108, 3) := by decide +kernel
theorem dX6_begin_16 : decode cX6_begin 16 = .ok (.return_, 1) := by decide +kernel
theorem dX6_goOn_0 : decode cX6_goOn 0 = .ok (.iconst 0, 1) := by decide +kernel
theorem dX6_goOn_1 : decode cX6_goOn 1 = .ok (.istore_n 3, 1) := by decide +kernel
theorem dX6_goOn_2 : decode cX6_goOn 2 = .ok (.iload_n 3, 1) := by decide +kernel
theorem dX6_goOn_3 : decode cX6_goOn 3 = .ok (.iload_n 1, 1) := by decide +kernel
theorem dX6_goOn_4 : decode cX6_goOn 4 = .ok (.if_icmp .ge 18, 3) := by decide +kernel
theorem dX6_goOn_7 : decode cX6_goOn 7 = .ok (.aload_n 0, 1) := by decide +kernel
theorem dX6_goOn_8 : decode cX6_goOn 8 = .ok (.aload_n 0, 1) := by decide +kernel
theorem dX6_goOn_9 : decode cX6_goOn 9 = .ok (.getfield 26, 3) := by decide +kernel
theorem dX6_goOn_12 : decode cX6_goOn 12 = .ok (.iload_n 2, 1) := by decide +kernel
theorem dX6_goOn_13 : decode cX6_goOn 13 = .ok (.invokevirtual 126, 3) := by decide +kernel
theorem dX6_goOn_16 : decode cX6_goOn 16 = .ok (.iinc 3 1, 3) := by decide +kernel
theorem dX6_goOn_19 : decode cX6_goOn 19 = .ok (.goto (-17), 3) := by decide +kernel
theorem dX6_goOn_22 : decode cX6_goOn 22 = .ok (.return_, 1) := by decide +kernel
theorem dX6_ahead_0 : decode cX6_ahead 0 = .ok (.aload_n 0, 1) := by decide +kernel
theorem dX6_ahead_1 : decode cX6_ahead 1 = .ok (.iload_n 1, 1) := by decide +kernel
theorem dX6_ahead_2 : decode cX6_ahead 2 = .ok (.invokevirtual 58, 3) := by decide +kernel
theorem dX6_ahead_5 : decode cX6_ahead 5 = .ok (.ifCond .eq 13, 3) := by decide +kernel
theorem dX6_ahead_8 : decode cX6_ahead 8 = .ok (.iload_n 2, 1) := by decide +kernel
theorem dX6_ahead_9 : decode cX6_ahead 9 = .ok (.iconst 0, 1) := by decide +kernel
theorem dX6_ahead_10 : decode cX6_ahead 10 = .ok (.bipush 99, 2) := by decide +kernel
theorem dX6_ahead_12 : decode cX6_ahead 12 = .ok (.invokestatic 38, 3) := by decide +kernel
theorem dX6_ahead_15 : decode cX6_ahead 15 = .ok (.ifCond .ne 5, 3) := by decide +kernel
theorem dX6_ahead_18 : decode cX6_ahead 18 = .ok (.iconst (-1), 1) := by decide +kernel
theorem dX6_ahead_19 : decode cX6_ahead 19 = .ok (.ireturn, 1) := by decide +kernel
theorem dX6_ahead_20 : decode cX6_ahead 20 = .ok (.aload_n 0, 1) := by decide +kernel
theorem dX6_ahead_21 : decode cX6_ahead 21 = .ok (.invokevirtual 141, 3) := by decide +kernel
theorem dX6_ahead_24 : decode cX6_ahead 24 = .ok (.aload_n 0, 1) := by decide +kernel
theorem dX6_ahead_25 : decode cX6_ahead 25 = .ok (.iload_n 2, 1) := by decide +kernel
theorem dX6_ahead_26 : decode cX6_ahead 26 = .ok (.iconst 0, 1) := by decide +kernel
theorem dX6_ahead_27 : decode cX6_ahead 27 = .ok (.invokevirtual 144, 3) := by decide +kernel
theorem dX6_ahead_30 : decode cX6_ahead 30 = .ok (.aload_n 0, 1) := by decide +kernel
theorem dX6_ahead_31 : decode cX6_ahead 31 = .ok (.getfield 26, 3) := by decide +kernel
theorem dX6_ahead_34 : decode cX6_ahead 34 = .ok (.iconst 2, 1) := by decide +kernel
theorem dX6_ahead_35 : decode cX6_ahead 35 = .ok (.iload_n 1, 1) := by decide +kernel
theorem dX6_ahead_36 : decode cX6_ahead 36 = .ok (.iadd, 1) := by decide +kernel
theorem dX6_ahead_37 : decode cX6_ahead 37 = .ok (.iaload, 1) := by decide +kernel
theorem dX6_ahead_38 : decode cX6_ahead 38 = .ok (.ireturn, 1) := by decide +kernel
theorem dX6_then_0 : decode cX6_then 0 = .ok (.iload_n 1, 1) := by decide +kernel
theorem dX6_then_1 : decode cX6_then 1 = .ok (.iconst 0, 1) := by decide +kernel
theorem dX6_then_2 : decode cX6_then 2 = .ok (.bipush 99, 2) := by decide +kernel
theorem dX6_then_4 : decode cX6_then 4 = .ok (.invokestatic 38, 3) := by decide +kernel
theorem dX6_then_7 : decode cX6_then 7 = .ok (.ifCond .ne 5, 3) := by decide +kernel
theorem dX6_then_10 : decode cX6_then 10 = .ok (.iconst (-1), 1) := by decide +kernel
theorem dX6_then_11 : decode cX6_then 11 = .ok (.ireturn, 1) := by decide +kernel
theorem dX6_then_12 : decode cX6_then 12 = .ok (.aload_n 0, 1) := by decide +kernel
theorem dX6_then_13 : decode cX6_then 13 = .ok (.invokevirtual 141, 3) := by decide +kernel
theorem dX6_then_16 : decode cX6_then 16 = .ok (.aload_n 0, 1) := by decide +kernel
theorem dX6_then_17 : decode cX6_then 17 = .ok (.iload_n 1, 1) := by decide +kernel
theorem dX6_then_18 : decode cX6_then 18 = .ok (.iconst 0, 1) := by decide +kernel
theorem dX6_then_19 : decode cX6_then 19 = .ok (.invokevirtual 144, 3) := by decide +kernel
theorem dX6_then_22 : decode cX6_then 22 = .ok (.aload_n 0, 1) := by decide +kernel
theorem dX6_then_23 : decode cX6_then 23 = .ok (.getfield 26, 3) := by decide +kernel
theorem dX6_then_26 : decode cX6_then 26 = .ok (.bipush 21, 2) := by decide +kernel
theorem dX6_then_28 : decode cX6_then 28 = .ok (.iaload, 1) := by decide +kernel
theorem dX6_then_29 : decode cX6_then 29 = .ok (.ireturn, 1) := by decide +kernel
theorem dX6_swornFrom_0 : decode cX6_swornFrom 0 = .ok (.iload_n 2, 1) := by decide +kernel
theorem dX6_swornFrom_1 : decode cX6_swornFrom 1 = .ok (.istore_n 3, 1) := by decide +kernel
theorem dX6_swornFrom_2 : decode cX6_swornFrom 2 = .ok (.iload_n 3, 1) := by decide +kernel
theorem dX6_swornFrom_3 : decode cX6_swornFrom 3 = .ok (.bipush 99, 2) := by decide +kernel
theorem dX6_swornFrom_5 : decode cX6_swornFrom 5 = .ok (.if_icmp .gt 34, 3) := by decide +kernel
theorem dX6_swornFrom_8 : decode cX6_swornFrom 8 = .ok (.aload_n 0, 1) := by decide +kernel
theorem dX6_swornFrom_9 : decode cX6_swornFrom 9 = .ok (.getfield 26, 3) := by decide +kernel
theorem dX6_swornFrom_12 : decode cX6_swornFrom 12 = .ok (.bipush 21, 2) := by decide +kernel
theorem dX6_swornFrom_14 : decode cX6_swornFrom 14 = .ok (.iaload, 1) := by decide +kernel
theorem dX6_swornFrom_15 : decode cX6_swornFrom 15 = .ok (.iload_n 1, 1) := by decide +kernel
theorem dX6_swornFrom_16 : decode cX6_swornFrom 16 = .ok (.invokestatic 50, 3) := by decide +kernel
theorem dX6_swornFrom_19 : decode cX6_swornFrom 19 = .ok (.ifCond .eq 5, 3) := by decide +kernel
theorem dX6_swornFrom_22 : decode cX6_swornFrom 22 = .ok (.iload_n 3, 1) := by decide +kernel
theorem dX6_swornFrom_23 : decode cX6_swornFrom 23 = .ok (.ireturn, 1) := by decide +kernel
theorem dX6_swornFrom_24 : decode cX6_swornFrom 24 = .ok (.aload_n 0, 1) := by decide +kernel
theorem dX6_swornFrom_25 : decode cX6_swornFrom 25 = .ok (.aload_n 0, 1) := by decide +kernel
theorem dX6_swornFrom_26 : decode cX6_swornFrom 26 = .ok (.getfield 26, 3) := by decide +kernel
theorem dX6_swornFrom_29 : decode cX6_swornFrom 29 = .ok (.iconst 0, 1) := by decide +kernel
theorem dX6_swornFrom_30 : decode cX6_swornFrom 30 = .ok (.invokevirtual 126, 3) := by decide +kernel
theorem dX6_swornFrom_33 : decode cX6_swornFrom 33 = .ok (.iinc 3 1, 3) := by decide +kernel
theorem dX6_swornFrom_36 : decode cX6_swornFrom 36 = .ok (.goto (-34), 3) := by decide +kernel
theorem dX6_swornFrom_39 : decode cX6_swornFrom 39 = .ok (.bipush (-4), 2) := by decide +kernel
theorem dX6_swornFrom_41 : decode cX6_swornFrom 41 = .ok (.ireturn, 1) := by decide +kernel
theorem dX6_sworn_0 : decode cX6_sworn 0 = .ok (.aload_n 0, 1) := by decide +kernel
theorem dX6_sworn_1 : decode cX6_sworn 1 = .ok (.iload_n 1, 1) := by decide +kernel
theorem dX6_sworn_2 : decode cX6_sworn 2 = .ok (.invokevirtual 58, 3) := by decide +kernel
theorem dX6_sworn_5 : decode cX6_sworn 5 = .ok (.ifCond .ne 5, 3) := by decide +kernel
theorem dX6_sworn_8 : decode cX6_sworn 8 = .ok (.iconst (-1), 1) := by decide +kernel
theorem dX6_sworn_9 : decode cX6_sworn 9 = .ok (.ireturn, 1) := by decide +kernel
theorem dX6_sworn_10 : decode cX6_sworn 10 = .ok (.aload_n 0, 1) := by decide +kernel
theorem dX6_sworn_11 : decode cX6_sworn 11 = .ok (.invokevirtual 141, 3) := by decide +kernel
theorem dX6_sworn_14 : decode cX6_sworn 14 = .ok (.aload_n 0, 1) := by decide +kernel
theorem dX6_sworn_15 : decode cX6_sworn 15 = .ok (.iload_n 1, 1) := by decide +kernel
theorem dX6_sworn_16 : decode cX6_sworn 16 = .ok (.iconst 0, 1) := by decide +kernel
theorem dX6_sworn_17 : decode cX6_sworn 17 = .ok (.invokevirtual 148, 3) := by decide +kernel
theorem dX6_sworn_20 : decode cX6_sworn 20 = .ok (.ireturn, 1) := by decide +kernel
theorem dX6_robs_0 : decode cX6_robs 0 = .ok (.aload_n 0, 1) := by decide +kernel
theorem dX6_robs_1 : decode cX6_robs 1 = .ok (.iload_n 1, 1) := by decide +kernel
theorem dX6_robs_2 : decode cX6_robs 2 = .ok (.invokevirtual 66, 3) := by decide +kernel
theorem dX6_robs_5 : decode cX6_robs 5 = .ok (.ifCond .ne 5, 3) := by decide +kernel
theorem dX6_robs_8 : decode cX6_robs 8 = .ok (.iconst (-1), 1) := by decide +kernel
theorem dX6_robs_9 : decode cX6_robs 9 = .ok (.ireturn, 1) := by decide +kernel
theorem dX6_robs_10 : decode cX6_robs 10 = .ok (.aload_n 0, 1) := by decide +kernel
theorem dX6_robs_11 : decode cX6_robs 11 = .ok (.invokevirtual 141, 3) := by decide +kernel
theorem dX6_robs_14 : decode cX6_robs 14 = .ok (.aload_n 0, 1) := by decide +kernel
theorem dX6_robs_15 : decode cX6_robs 15 = .ok (.aload_n 0, 1) := by decide +kernel
theorem dX6_robs_16 : decode cX6_robs 16 = .ok (.getfield 26, 3) := by decide +kernel
theorem dX6_robs_19 : decode cX6_robs 19 = .ok (.iconst 0, 1) := by decide +kernel
theorem dX6_robs_20 : decode cX6_robs 20 = .ok (.invokevirtual 115, 3) := by decide +kernel
theorem dX6_robs_23 : decode cX6_robs 23 = .ok (.pop, 1) := by decide +kernel
theorem dX6_robs_24 : decode cX6_robs 24 = .ok (.aload_n 0, 1) := by decide +kernel
theorem dX6_robs_25 : decode cX6_robs 25 = .ok (.getfield 35, 3) := by decide +kernel
theorem dX6_robs_28 : decode cX6_robs 28 = .ok (.iload_n 1, 1) := by decide +kernel
theorem dX6_robs_29 : decode cX6_robs 29 = .ok (.iaload, 1) := by decide +kernel
theorem dX6_robs_30 : decode cX6_robs 30 = .ok (.ireturn, 1) := by decide +kernel
theorem dX6_hides_0 : decode cX6_hides 0 = .ok (.aload_n 0, 1) := by decide +kernel
theorem dX6_hides_1 : decode cX6_hides 1 = .ok (.iload_n 1, 1) := by decide +kernel
theorem dX6_hides_2 : decode cX6_hides 2 = .ok (.invokevirtual 58, 3) := by decide +kernel
theorem dX6_hides_5 : decode cX6_hides 5 = .ok (.ifCond .eq 12, 3) := by decide +kernel
theorem dX6_hides_8 : decode cX6_hides 8 = .ok (.iload_n 2, 1) := by decide +kernel
theorem dX6_hides_9 : decode cX6_hides 9 = .ok (.iconst 0, 1) := by decide +kernel
theorem dX6_hides_10 : decode cX6_hides 10 = .ok (.iconst 1, 1) := by decide +kernel
theorem dX6_hides_11 : decode cX6_hides 11 = .ok (.invokestatic 38, 3) := by decide +kernel
theorem dX6_hides_14 : decode cX6_hides 14 = .ok (.ifCond .ne 5, 3) := by decide +kernel
theorem dX6_hides_17 : decode cX6_hides 17 = .ok (.iconst (-1), 1) := by decide +kernel
theorem dX6_hides_18 : decode cX6_hides 18 = .ok (.ireturn, 1) := by decide +kernel
theorem dX6_hides_19 : decode cX6_hides 19 = .ok (.aload_n 0, 1) := by decide +kernel
theorem dX6_hides_20 : decode cX6_hides 20 = .ok (.getfield 23, 3) := by decide +kernel
theorem dX6_hides_23 : decode cX6_hides 23 = .ok (.bipush 21, 2) := by decide +kernel
theorem dX6_hides_25 : decode cX6_hides 25 = .ok (.iaload, 1) := by decide +kernel
theorem dX6_hides_26 : decode cX6_hides 26 = .ok (.iload_n 1, 1) := by decide +kernel
theorem dX6_hides_27 : decode cX6_hides 27 = .ok (.invokestatic 50, 3) := by decide +kernel
theorem dX6_hides_30 : decode cX6_hides 30 = .ok (.ifCond .eq 5, 3) := by decide +kernel
theorem dX6_hides_33 : decode cX6_hides 33 = .ok (.iconst 0, 1) := by decide +kernel
theorem dX6_hides_34 : decode cX6_hides 34 = .ok (.ireturn, 1) := by decide +kernel
theorem dX6_hides_35 : decode cX6_hides 35 = .ok (.bipush (-4), 2) := by decide +kernel
theorem dX6_hides_37 : decode cX6_hides 37 = .ok (.istore_n 3, 1) := by decide +kernel
theorem dX6_hides_38 : decode cX6_hides 38 = .ok (.bipush (-4), 2) := by decide +kernel
theorem dX6_hides_40 : decode cX6_hides 40 = .ok (.istore 4, 2) := by decide +kernel
theorem dX6_hides_42 : decode cX6_hides 42 = .ok (.iconst 0, 1) := by decide +kernel
theorem dX6_hides_43 : decode cX6_hides 43 = .ok (.istore 5, 2) := by decide +kernel
theorem dX6_hides_45 : decode cX6_hides 45 = .ok (.iload 5, 2) := by decide +kernel
theorem dX6_hides_47 : decode cX6_hides 47 = .ok (.bipush 20, 2) := by decide +kernel
theorem dX6_hides_49 : decode cX6_hides 49 = .ok (.if_icmp .gt 75, 3) := by decide +kernel
theorem dX6_hides_52 : decode cX6_hides 52 = .ok (.aload_n 0, 1) := by decide +kernel
theorem dX6_hides_53 : decode cX6_hides 53 = .ok (.invokevirtual 141, 3) := by decide +kernel
theorem dX6_hides_56 : decode cX6_hides 56 = .ok (.aload_n 0, 1) := by decide +kernel
theorem dX6_hides_57 : decode cX6_hides 57 = .ok (.getfield 26, 3) := by decide +kernel
theorem dX6_hides_60 : decode cX6_hides 60 = .ok (.iload_n 1, 1) := by decide +kernel
theorem dX6_hides_61 : decode cX6_hides 61 = .ok (.iconst 0, 1) := by decide +kernel
theorem dX6_hides_62 : decode cX6_hides 62 = .ok (.invokestatic 130, 3) := by decide +kernel
theorem dX6_hides_65 : decode cX6_hides 65 = .ok (.aload_n 0, 1) := by decide +kernel
theorem dX6_hides_66 : decode cX6_hides 66 = .ok (.iload 5, 2) := by decide +kernel
theorem dX6_hides_68 : decode cX6_hides 68 = .ok (.iconst 0, 1) := by decide +kernel
theorem dX6_hides_69 : decode cX6_hides 69 = .ok (.invokevirtual 144, 3) := by decide +kernel
theorem dX6_hides_72 : decode cX6_hides 72 = .ok (.aload_n 0, 1) := by decide +kernel
theorem dX6_hides_73 : decode cX6_hides 73 = .ok (.getfield 26, 3) := by decide +kernel
theorem dX6_hides_76 : decode cX6_hides 76 = .ok (.iload_n 1, 1) := by decide +kernel
theorem dX6_hides_77 : decode cX6_hides 77 = .ok (.iconst 1, 1) := by decide +kernel
theorem dX6_hides_78 : decode cX6_hides 78 = .ok (.invokestatic 130, 3) := by decide +kernel
theorem dX6_hides_81 : decode cX6_hides 81 = .ok (.aload_n 0, 1) := by decide +kernel
theorem dX6_hides_82 : decode cX6_hides 82 = .ok (.iload_n 1, 1) := by decide +kernel
theorem dX6_hides_83 : decode cX6_hides 83 = .ok (.iload 5, 2) := by decide +kernel
theorem dX6_hides_85 : decode cX6_hides 85 = .ok (.invokevirtual 148, 3) := by decide +kernel
theorem dX6_hides_88 : decode cX6_hides 88 = .ok (.istore 6, 2) := by decide +kernel
theorem dX6_hides_90 : decode cX6_hides 90 = .ok (.iload 6, 2) := by decide +kernel
theorem dX6_hides_92 : decode cX6_hides 92 = .ok (.bipush (-4), 2) := by decide +kernel
theorem dX6_hides_94 : decode cX6_hides 94 = .ok (.if_icmp .eq 24, 3) := by decide +kernel
theorem dX6_hides_97 : decode cX6_hides 97 = .ok (.iload 4, 2) := by decide +kernel
theorem dX6_hides_99 : decode cX6_hides 99 = .ok (.bipush (-4), 2) := by decide +kernel
theorem dX6_hides_101 : decode cX6_hides 101 = .ok (.if_icmp .eq 10, 3) := by decide +kernel
theorem dX6_hides_104 : decode cX6_hides 104 = .ok (.iload 6, 2) := by decide +kernel
theorem dX6_hides_106 : decode cX6_hides 106 = .ok (.iload 4, 2) := by decide +kernel
theorem dX6_hides_108 : decode cX6_hides 108 = .ok (.if_icmp .ge 10, 3) := by decide +kernel
theorem dX6_hides_111 : decode cX6_hides 111 = .ok (.iload 5, 2) := by decide +kernel
theorem dX6_hides_113 : decode cX6_hides 113 = .ok (.istore_n 3, 1) := by decide +kernel
theorem dX6_hides_114 : decode cX6_hides 114 = .ok (.iload 6, 2) := by decide +kernel
theorem dX6_hides_116 : decode cX6_hides 116 = .ok (.istore 4, 2) := by decide +kernel
theorem dX6_hides_118 : decode cX6_hides 118 = .ok (.iinc 5 1, 3) := by decide +kernel
theorem dX6_hides_121 : decode cX6_hides 121 = .ok (.goto (-76), 3) := by decide +kernel
theorem dX6_hides_124 : decode cX6_hides 124 = .ok (.iload_n 2, 1) := by decide +kernel
theorem dX6_hides_125 : decode cX6_hides 125 = .ok (.ifCond .ne 7, 3) := by decide +kernel
theorem dX6_hides_128 : decode cX6_hides 128 = .ok (.iload_n 3, 1) := by decide +kernel
theorem dX6_hides_129 : decode cX6_hides 129 = .ok (.goto 5, 3) := by decide +kernel
theorem dX6_hides_132 : decode cX6_hides 132 = .ok (.iload 4, 2) := by decide +kernel
theorem dX6_hides_134 : decode cX6_hides 134 = .ok (.ireturn, 1) := by decide +kernel
theorem dX6_cover_0 : decode cX6_cover 0 = .ok (.aload_n 0, 1) := by decide +kernel
theorem dX6_cover_1 : decode cX6_cover 1 = .ok (.iload_n 1, 1) := by decide +kernel
theorem dX6_cover_2 : decode cX6_cover 2 = .ok (.invokevirtual 58, 3) := by decide +kernel
theorem dX6_cover_5 : decode cX6_cover 5 = .ok (.ifCond .eq 22, 3) := by decide +kernel
theorem dX6_cover_8 : decode cX6_cover 8 = .ok (.iload_n 2, 1) := by decide +kernel
theorem dX6_cover_9 : decode cX6_cover 9 = .ok (.iconst 1, 1) := by decide +kernel
theorem dX6_cover_10 : decode cX6_cover 10 = .ok (.bipush 40, 2) := by decide +kernel
theorem dX6_cover_12 : decode cX6_cover 12 = .ok (.invokestatic 38, 3) := by decide +kernel
theorem dX6_cover_15 : decode cX6_cover 15 = .ok (.ifCond .eq 12, 3) := by decide +kernel
theorem dX6_cover_18 : decode cX6_cover 18 = .ok (.iload_n 3, 1) := by decide +kernel
theorem dX6_cover_19 : decode cX6_cover 19 = .ok (.iconst 0, 1) := by decide +kernel
theorem dX6_cover_20 : decode cX6_cover 20 = .ok (.iconst 1, 1) := by decide +kernel
theorem dX6_cover_21 : decode cX6_cover 21 = .ok (.invokestatic 38, 3) := by decide +kernel
theorem dX6_cover_24 : decode cX6_cover 24 = .ok (.ifCond .ne 5, 3) := by decide +kernel
theorem dX6_cover_27 : decode cX6_cover 27 = .ok (.iconst (-1), 1) := by decide +kernel
theorem dX6_cover_28 : decode cX6_cover 28 = .ok (.ireturn, 1) := by decide +kernel
theorem dX6_cover_29 : decode cX6_cover 29 = .ok (.aload_n 0, 1) := by decide +kernel
theorem dX6_cover_30 : decode cX6_cover 30 = .ok (.getfield 23, 3) := by decide +kernel
theorem dX6_cover_33 : decode cX6_cover 33 = .ok (.bipush 20, 2) := by decide +kernel
theorem dX6_cover_35 : decode cX6_cover 35 = .ok (.iaload, 1) := by decide +kernel
theorem dX6_cover_36 : decode cX6_cover 36 = .ok (.aload_n 0, 1) := by decide +kernel
theorem dX6_cover_37 : decode cX6_cover 37 = .ok (.getfield 23, 3) := by decide +kernel
theorem dX6_cover_40 : decode cX6_cover 40 = .ok (.bipush 21, 2) := by decide +kernel
theorem dX6_cover_42 : decode cX6_cover 42 = .ok (.iaload, 1) := by decide +kernel
theorem dX6_cover_43 : decode cX6_cover 43 = .ok (.iconst (-1), 1) := by decide +kernel
theorem dX6_cover_44 : decode cX6_cover 44 = .ok (.ixor, 1) := by decide +kernel
theorem dX6_cover_45 : decode cX6_cover 45 = .ok (.iand, 1) := by decide +kernel
theorem dX6_cover_46 : decode cX6_cover 46 = .ok (.iconst 1, 1) := by decide +kernel
theorem dX6_cover_47 : decode cX6_cover 47 = .ok (.iload_n 1, 1) := by decide +kernel
theorem dX6_cover_48 : decode cX6_cover 48 = .ok (.ishl, 1) := by decide +kernel
theorem dX6_cover_49 : decode cX6_cover 49 = .ok (.iconst (-1), 1) := by decide +kernel
theorem dX6_cover_50 : decode cX6_cover 50 = .ok (.ixor, 1) := by decide +kernel
theorem dX6_cover_51 : decode cX6_cover 51 = .ok (.iand, 1) := by decide +kernel
theorem dX6_cover_52 : decode cX6_cover 52 = .ok (.istore 4, 2) := by decide +kernel
theorem dX6_cover_54 : decode cX6_cover 54 = .ok (.bipush (-4), 2) := by decide +kernel
theorem dX6_cover_56 : decode cX6_cover 56 = .ok (.istore 5, 2) := by decide +kernel
theorem dX6_cover_58 : decode cX6_cover 58 = .ok (.iconst 0, 1) := by decide +kernel
theorem dX6_cover_59 : decode cX6_cover 59 = .ok (.istore 6, 2) := by decide +kernel
theorem dX6_cover_61 : decode cX6_cover 61 = .ok (.iload 6, 2) := by decide +kernel
theorem dX6_cover_63 : decode cX6_cover 63 = .ok (.iload 4, 2) := by decide +kernel
theorem dX6_cover_65 : decode cX6_cover 65 = .ok (.if_icmp .gt 91, 3) := by decide +kernel
theorem dX6_cover_68 : decode cX6_cover 68 = .ok (.iload 6, 2) := by decide +kernel
theorem dX6_cover_70 : decode cX6_cover 70 = .ok (.iload 4, 2) := by decide +kernel
theorem dX6_cover_72 : decode cX6_cover 72 = .ok (.iconst (-1), 1) := by decide +kernel
theorem dX6_cover_73 : decode cX6_cover 73 = .ok (.ixor, 1) := by decide +kernel
theorem dX6_cover_74 : decode cX6_cover 74 = .ok (.iand, 1) := by decide +kernel
theorem dX6_cover_75 : decode cX6_cover 75 = .ok (.ifCond .ne 75, 3) := by decide +kernel
theorem dX6_cover_78 : decode cX6_cover 78 = .ok (.iload 5, 2) := by decide +kernel
theorem dX6_cover_80 : decode cX6_cover 80 = .ok (.bipush (-4), 2) := by decide +kernel
theorem dX6_cover_82 : decode cX6_cover 82 = .ok (.if_icmp .eq 16, 3) := by decide +kernel
theorem dX6_cover_85 : decode cX6_cover 85 = .ok (.iload 6, 2) := by decide +kernel
theorem dX6_cover_87 : decode cX6_cover 87 = .ok (.invokestatic 152, 3) := by decide +kernel
theorem dX6_cover_90 : decode cX6_cover 90 = .ok (.iload 5, 2) := by decide +kernel
theorem dX6_cover_92 : decode cX6_cover 92 = .ok (.invokestatic 152, 3) := by decide +kernel
theorem dX6_cover_95 : decode cX6_cover 95 = .ok (.if_icmp .ge 55, 3) := by decide +kernel
theorem dX6_cover_98 : decode cX6_cover 98 = .ok (.aload_n 0, 1) := by decide +kernel
theorem dX6_cover_99 : decode cX6_cover 99 = .ok (.invokevirtual 141, 3) := by decide +kernel
theorem dX6_cover_102 : decode cX6_cover 102 = .ok (.aload_n 0, 1) := by decide +kernel
theorem dX6_cover_103 : decode cX6_cover 103 = .ok (.getfield 26, 3) := by decide +kernel
theorem dX6_cover_106 : decode cX6_cover 106 = .ok (.bipush 20, 2) := by decide +kernel
theorem dX6_cover_108 : decode cX6_cover 108 = .ok (.aload_n 0, 1) := by decide +kernel
theorem dX6_cover_109 : decode cX6_cover 109 = .ok (.getfield 26, 3) := by decide +kernel
theorem dX6_cover_112 : decode cX6_cover 112 = .ok (.bipush 20, 2) := by decide +kernel
theorem dX6_cover_114 : decode cX6_cover 114 = .ok (.iaload, 1) := by decide +kernel
theorem dX6_cover_115 : decode cX6_cover 115 = .ok (.iload 6, 2) := by decide +kernel
theorem dX6_cover_117 : decode cX6_cover 117 = .ok (.iconst (-1), 1) := by decide +kernel
theorem dX6_cover_118 : decode cX6_cover 118 = .ok (.ixor, 1) := by decide +kernel
theorem dX6_cover_119 : decode cX6_cover 119 = .ok (.iand, 1) := by decide +kernel
theorem dX6_cover_120 : decode cX6_cover 120 = .ok (.iastore, 1) := by decide +kernel
theorem dX6_cover_121 : decode cX6_cover 121 = .ok (.aload_n 0, 1) := by decide +kernel
theorem dX6_cover_122 : decode cX6_cover 122 = .ok (.iload_n 2, 1) := by decide +kernel
theorem dX6_cover_123 : decode cX6_cover 123 = .ok (.iconst 0, 1) := by decide +kernel
theorem dX6_cover_124 : decode cX6_cover 124 = .ok (.invokevirtual 144, 3) := by decide +kernel
theorem dX6_cover_127 : decode cX6_cover 127 = .ok (.aload_n 0, 1) := by decide +kernel
theorem dX6_cover_128 : decode cX6_cover 128 = .ok (.getfield 26, 3) := by decide +kernel
theorem dX6_cover_131 : decode cX6_cover 131 = .ok (.bipush 21, 2) := by decide +kernel
theorem dX6_cover_133 : decode cX6_cover 133 = .ok (.iaload, 1) := by decide +kernel
theorem dX6_cover_134 : decode cX6_cover 134 = .ok (.iload_n 1, 1) := by decide +kernel
theorem dX6_cover_135 : decode cX6_cover 135 = .ok (.invokestatic 50, 3) := by decide +kernel
theorem dX6_cover_138 : decode cX6_cover 138 = .ok (.ifCond .eq 8, 3) := by decide +kernel
theorem dX6_cover_141 : decode cX6_cover 141 = .ok (.iload 6, 2) := by decide +kernel
theorem dX6_cover_143 : decode cX6_cover 143 = .ok (.goto 5, 3) := by decide +kernel
theorem dX6_cover_146 : decode cX6_cover 146 = .ok (.iload 5, 2) := by decide +kernel
theorem dX6_cover_148 : decode cX6_cover 148 = .ok (.istore 5, 2) := by decide +kernel
theorem dX6_cover_150 : decode cX6_cover 150 = .ok (.iinc 6 1, 3) := by decide +kernel
theorem dX6_cover_153 : decode cX6_cover 153 = .ok (.goto (-92), 3) := by decide +kernel
theorem dX6_cover_156 : decode cX6_cover 156 = .ok (.iload 5, 2) := by decide +kernel
theorem dX6_cover_158 : decode cX6_cover 158 = .ok (.bipush (-4), 2) := by decide +kernel
theorem dX6_cover_160 : decode cX6_cover 160 = .ok (.if_icmp .ne 8, 3) := by decide +kernel
theorem dX6_cover_163 : decode cX6_cover 163 = .ok (.bipush (-4), 2) := by decide +kernel
theorem dX6_cover_165 : decode cX6_cover 165 = .ok (.goto 17, 3) := by decide +kernel
theorem dX6_cover_168 : decode cX6_cover 168 = .ok (.iload_n 3, 1) := by decide +kernel
theorem dX6_cover_169 : decode cX6_cover 169 = .ok (.ifCond .ne 11, 3) := by decide +kernel
theorem dX6_cover_172 : decode cX6_cover 172 = .ok (.iload 5, 2) := by decide +kernel
theorem dX6_cover_174 : decode cX6_cover 174 = .ok (.invokestatic 152, 3) := by decide +kernel
theorem dX6_cover_177 : decode cX6_cover 177 = .ok (.goto 5, 3) := by decide +kernel
theorem dX6_cover_180 : decode cX6_cover 180 = .ok (.iload 5, 2) := by decide +kernel
theorem dX6_cover_182 : decode cX6_cover 182 = .ok (.ireturn, 1) := by decide +kernel
theorem dX6_low_0 : decode cX6_low 0 = .ok (.iload_n 1, 1) := by decide +kernel
theorem dX6_low_1 : decode cX6_low 1 = .ok (.iconst 1, 1) := by decide +kernel
theorem dX6_low_2 : decode cX6_low 2 = .ok (.bipush 40, 2) := by decide +kernel
theorem dX6_low_4 : decode cX6_low 4 = .ok (.invokestatic 38, 3) := by decide +kernel
theorem dX6_low_7 : decode cX6_low 7 = .ok (.ifCond .ne 5, 3) := by decide +kernel
theorem dX6_low_10 : decode cX6_low 10 = .ok (.iconst (-1), 1) := by decide +kernel
theorem dX6_low_11 : decode cX6_low 11 = .ok (.ireturn, 1) := by decide +kernel
theorem dX6_low_12 : decode cX6_low 12 = .ok (.bipush 99, 2) := by decide +kernel
theorem dX6_low_14 : decode cX6_low 14 = .ok (.istore_n 2, 1) := by decide +kernel
theorem dX6_low_15 : decode cX6_low 15 = .ok (.iload_n 2, 1) := by decide +kernel
theorem dX6_low_16 : decode cX6_low 16 = .ok (.ifCond .lt 50, 3) := by decide +kernel
theorem dX6_low_19 : decode cX6_low 19 = .ok (.aload_n 0, 1) := by decide +kernel
theorem dX6_low_20 : decode cX6_low 20 = .ok (.invokevirtual 141, 3) := by decide +kernel
theorem dX6_low_23 : decode cX6_low 23 = .ok (.aload_n 0, 1) := by decide +kernel
theorem dX6_low_24 : decode cX6_low 24 = .ok (.getfield 26, 3) := by decide +kernel
theorem dX6_low_27 : decode cX6_low 27 = .ok (.bipush 22, 2) := by decide +kernel
theorem dX6_low_29 : decode cX6_low 29 = .ok (.iload_n 2, 1) := by decide +kernel
theorem dX6_low_30 : decode cX6_low 30 = .ok (.iastore, 1) := by decide +kernel
theorem dX6_low_31 : decode cX6_low 31 = .ok (.aload_n 0, 1) := by decide +kernel
theorem dX6_low_32 : decode cX6_low 32 = .ok (.iload_n 1, 1) := by decide +kernel
theorem dX6_low_33 : decode cX6_low 33 = .ok (.iconst 0, 1) := by decide +kernel
theorem dX6_low_34 : decode cX6_low 34 = .ok (.invokevirtual 144, 3) := by decide +kernel
theorem dX6_low_37 : decode cX6_low 37 = .ok (.aload_n 0, 1) := by decide +kernel
theorem dX6_low_38 : decode cX6_low 38 = .ok (.getfield 26, 3) := by decide +kernel
theorem dX6_low_41 : decode cX6_low 41 = .ok (.bipush 21, 2) := by decide +kernel
theorem dX6_low_43 : decode cX6_low 43 = .ok (.iaload, 1) := by decide +kernel
theorem dX6_low_44 : decode cX6_low 44 = .ok (.iconst 1, 1) := by decide +kernel
theorem dX6_low_45 : decode cX6_low 45 = .ok (.aload_n 0, 1) := by decide +kernel
theorem dX6_low_46 : decode cX6_low 46 = .ok (.getfield 23, 3) := by decide +kernel
theorem dX6_low_49 : decode cX6_low 49 = .ok (.bipush 23, 2) := by decide +kernel
theorem dX6_low_51 : decode cX6_low 51 = .ok (.iaload, 1) := by decide +kernel
theorem dX6_low_52 : decode cX6_low 52 = .ok (.ishl, 1) := by decide +kernel
theorem dX6_low_53 : decode cX6_low 53 = .ok (.iconst 1, 1) := by decide +kernel
theorem dX6_low_54 : decode cX6_low 54 = .ok (.isub, 1) := by decide +kernel
theorem dX6_low_55 : decode cX6_low 55 = .ok (.if_icmp .ne 5, 3) := by decide +kernel
theorem dX6_low_58 : decode cX6_low 58 = .ok (.iload_n 2, 1) := by decide +kernel
theorem dX6_low_59 : decode cX6_low 59 = .ok (.ireturn, 1) := by decide +kernel
theorem dX6_low_60 : decode cX6_low 60 = .ok (.iinc 2 (-1), 3) := by decide +kernel
theorem dX6_low_63 : decode cX6_low 63 = .ok (.goto (-48), 3) := by decide +kernel
theorem dX6_low_66 : decode cX6_low 66 = .ok (.bipush (-4), 2) := by decide +kernel
theorem dX6_low_68 : decode cX6_low 68 = .ok (.ireturn, 1) := by decide +kernel
theorem dX6_spare_0 : decode cX6_spare 0 = .ok (.iload_n 1, 1) := by decide +kernel
theorem dX6_spare_1 : decode cX6_spare 1 = .ok (.iconst 1, 1) := by decide +kernel
theorem dX6_spare_2 : decode cX6_spare 2 = .ok (.bipush 40, 2) := by decide +kernel
theorem dX6_spare_4 : decode cX6_spare 4 = .ok (.invokestatic 38, 3) := by decide +kernel
theorem dX6_spare_7 : decode cX6_spare 7 = .ok (.ifCond .eq 12, 3) := by decide +kernel
