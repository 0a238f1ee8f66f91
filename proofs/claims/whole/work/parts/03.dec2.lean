theorem dX4_addThief_28 : decode cX4_addThief 28 = .ok (.iload_n 3, 1) := by decide +kernel
theorem dX4_addThief_29 : decode cX4_addThief 29 = .ok (.iconst 1, 1) := by decide +kernel
theorem dX4_addThief_30 : decode cX4_addThief 30 = .ok (.iadd, 1) := by decide +kernel
theorem dX4_addThief_31 : decode cX4_addThief 31 = .ok (.putfield 46, 3) := by decide +kernel
theorem dX4_addThief_34 : decode cX4_addThief 34 = .ok (.iload_n 3, 1) := by decide +kernel
theorem dX4_addThief_35 : decode cX4_addThief 35 = .ok (.ireturn, 1) := by decide +kernel
theorem dX4_setShown_0 : decode cX4_setShown 0 = .ok (.aload_n 0, 1) := by decide +kernel
theorem dX4_setShown_1 : decode cX4_setShown 1 = .ok (.iload_n 2, 1) := by decide +kernel
theorem dX4_setShown_2 : decode cX4_setShown 2 = .ok (.ifCond .eq 14, 3) := by decide +kernel
theorem dX4_setShown_5 : decode cX4_setShown 5 = .ok (.aload_n 0, 1) := by decide +kernel
theorem dX4_setShown_6 : decode cX4_setShown 6 = .ok (.getfield 49, 3) := by decide +kernel
theorem dX4_setShown_9 : decode cX4_setShown 9 = .ok (.iconst 1, 1) := by decide +kernel
theorem dX4_setShown_10 : decode cX4_setShown 10 = .ok (.iload_n 1, 1) := by decide +kernel
theorem dX4_setShown_11 : decode cX4_setShown 11 = .ok (.ishl, 1) := by decide +kernel
theorem dX4_setShown_12 : decode cX4_setShown 12 = .ok (.ior, 1) := by decide +kernel
theorem dX4_setShown_13 : decode cX4_setShown 13 = .ok (.goto 13, 3) := by decide +kernel
theorem dX4_setShown_16 : decode cX4_setShown 16 = .ok (.aload_n 0, 1) := by decide +kernel
theorem dX4_setShown_17 : decode cX4_setShown 17 = .ok (.getfield 49, 3) := by decide +kernel
theorem dX4_setShown_20 : decode cX4_setShown 20 = .ok (.iconst 1, 1) := by decide +kernel
theorem dX4_setShown_21 : decode cX4_setShown 21 = .ok (.iload_n 1, 1) := by decide +kernel
theorem dX4_setShown_22 : decode cX4_setShown 22 = .ok (.ishl, 1) := by decide +kernel
theorem dX4_setShown_23 : decode cX4_setShown 23 = .ok (.iconst (-1), 1) := by decide +kernel
theorem dX4_setShown_24 : decode cX4_setShown 24 = .ok (.ixor, 1) := by decide +kernel
theorem dX4_setShown_25 : decode cX4_setShown 25 = .ok (.iand, 1) := by decide +kernel
theorem dX4_setShown_26 : decode cX4_setShown 26 = .ok (.putfield 49, 3) := by decide +kernel
theorem dX4_setShown_29 : decode cX4_setShown 29 = .ok (.return_, 1) := by decide +kernel
theorem dX4_everybody_0 : decode cX4_everybody 0 = .ok (.iconst 1, 1) := by decide +kernel
theorem dX4_everybody_1 : decode cX4_everybody 1 = .ok (.aload_n 0, 1) := by decide +kernel
theorem dX4_everybody_2 : decode cX4_everybody 2 = .ok (.getfield 43, 3) := by decide +kernel
theorem dX4_everybody_5 : decode cX4_everybody 5 = .ok (.ishl, 1) := by decide +kernel
theorem dX4_everybody_6 : decode cX4_everybody 6 = .ok (.iconst 1, 1) := by decide +kernel
theorem dX4_everybody_7 : decode cX4_everybody 7 = .ok (.isub, 1) := by decide +kernel
theorem dX4_everybody_8 : decode cX4_everybody 8 = .ok (.ireturn, 1) := by decide +kernel
theorem dX4_dearTogether_0 : decode cX4_dearTogether 0 = .ok (.iconst 0, 1) := by decide +kernel
theorem dX4_dearTogether_1 : decode cX4_dearTogether 1 = .ok (.istore_n 1, 1) := by decide +kernel
theorem dX4_dearTogether_2 : decode cX4_dearTogether 2 = .ok (.iconst 0, 1) := by decide +kernel
theorem dX4_dearTogether_3 : decode cX4_dearTogether 3 = .ok (.istore_n 2, 1) := by decide +kernel
theorem dX4_dearTogether_4 : decode cX4_dearTogether 4 = .ok (.iload_n 2, 1) := by decide +kernel
theorem dX4_dearTogether_5 : decode cX4_dearTogether 5 = .ok (.aload_n 0, 1) := by decide +kernel
theorem dX4_dearTogether_6 : decode cX4_dearTogether 6 = .ok (.getfield 43, 3) := by decide +kernel
theorem dX4_dearTogether_9 : decode cX4_dearTogether 9 = .ok (.if_icmp .ge 29, 3) := by decide +kernel
theorem dX4_dearTogether_12 : decode cX4_dearTogether 12 = .ok (.aload_n 0, 1) := by decide +kernel
theorem dX4_dearTogether_13 : decode cX4_dearTogether 13 = .ok (.getfield 52, 3) := by decide +kernel
theorem dX4_dearTogether_16 : decode cX4_dearTogether 16 = .ok (.iload_n 2, 1) := by decide +kernel
theorem dX4_dearTogether_17 : decode cX4_dearTogether 17 = .ok (.invokestatic 62, 3) := by decide +kernel
theorem dX4_dearTogether_20 : decode cX4_dearTogether 20 = .ok (.ifCond .ne 12, 3) := by decide +kernel
theorem dX4_dearTogether_23 : decode cX4_dearTogether 23 = .ok (.iload_n 1, 1) := by decide +kernel
theorem dX4_dearTogether_24 : decode cX4_dearTogether 24 = .ok (.aload_n 0, 1) := by decide +kernel
theorem dX4_dearTogether_25 : decode cX4_dearTogether 25 = .ok (.getfield 18, 3) := by decide +kernel
theorem dX4_dearTogether_28 : decode cX4_dearTogether 28 = .ok (.iload_n 2, 1) := by decide +kernel
theorem dX4_dearTogether_29 : decode cX4_dearTogether 29 = .ok (.iaload, 1) := by decide +kernel
theorem dX4_dearTogether_30 : decode cX4_dearTogether 30 = .ok (.iadd, 1) := by decide +kernel
theorem dX4_dearTogether_31 : decode cX4_dearTogether 31 = .ok (.istore_n 1, 1) := by decide +kernel
theorem dX4_dearTogether_32 : decode cX4_dearTogether 32 = .ok (.iinc 2 1, 3) := by decide +kernel
theorem dX4_dearTogether_35 : decode cX4_dearTogether 35 = .ok (.goto (-31), 3) := by decide +kernel
theorem dX4_dearTogether_38 : decode cX4_dearTogether 38 = .ok (.iload_n 1, 1) := by decide +kernel
theorem dX4_dearTogether_39 : decode cX4_dearTogether 39 = .ok (.ireturn, 1) := by decide +kernel
theorem dX4_mayRob_0 : decode cX4_mayRob 0 = .ok (.aload_n 0, 1) := by decide +kernel
theorem dX4_mayRob_1 : decode cX4_mayRob 1 = .ok (.getfield 49, 3) := by decide +kernel
theorem dX4_mayRob_4 : decode cX4_mayRob 4 = .ok (.aload_n 0, 1) := by decide +kernel
theorem dX4_mayRob_5 : decode cX4_mayRob 5 = .ok (.getfield 52, 3) := by decide +kernel
theorem dX4_mayRob_8 : decode cX4_mayRob 8 = .ok (.iconst (-1), 1) := by decide +kernel
theorem dX4_mayRob_9 : decode cX4_mayRob 9 = .ok (.ixor, 1) := by decide +kernel
theorem dX4_mayRob_10 : decode cX4_mayRob 10 = .ok (.iand, 1) := by decide +kernel
theorem dX4_mayRob_11 : decode cX4_mayRob 11 = .ok (.iconst 1, 1) := by decide +kernel
theorem dX4_mayRob_12 : decode cX4_mayRob 12 = .ok (.iload_n 2, 1) := by decide +kernel
theorem dX4_mayRob_13 : decode cX4_mayRob 13 = .ok (.ishl, 1) := by decide +kernel
theorem dX4_mayRob_14 : decode cX4_mayRob 14 = .ok (.iand, 1) := by decide +kernel
theorem dX4_mayRob_15 : decode cX4_mayRob 15 = .ok (.ifCond .eq 7, 3) := by decide +kernel
theorem dX4_mayRob_18 : decode cX4_mayRob 18 = .ok (.iconst 1, 1) := by decide +kernel
theorem dX4_mayRob_19 : decode cX4_mayRob 19 = .ok (.goto 4, 3) := by decide +kernel
theorem dX4_mayRob_22 : decode cX4_mayRob 22 = .ok (.iconst 0, 1) := by decide +kernel
theorem dX4_mayRob_23 : decode cX4_mayRob 23 = .ok (.istore_n 3, 1) := by decide +kernel
theorem dX4_mayRob_24 : decode cX4_mayRob 24 = .ok (.iload_n 3, 1) := by decide +kernel
theorem dX4_mayRob_25 : decode cX4_mayRob 25 = .ok (.ifCond .eq 47, 3) := by decide +kernel
theorem dX4_mayRob_28 : decode cX4_mayRob 28 = .ok (.aload_n 0, 1) := by decide +kernel
theorem dX4_mayRob_29 : decode cX4_mayRob 29 = .ok (.getfield 21, 3) := by decide +kernel
theorem dX4_mayRob_32 : decode cX4_mayRob 32 = .ok (.iload_n 2, 1) := by decide +kernel
theorem dX4_mayRob_33 : decode cX4_mayRob 33 = .ok (.iaload, 1) := by decide +kernel
theorem dX4_mayRob_34 : decode cX4_mayRob 34 = .ok (.aload_n 0, 1) := by decide +kernel
theorem dX4_mayRob_35 : decode cX4_mayRob 35 = .ok (.getfield 24, 3) := by decide +kernel
theorem dX4_mayRob_38 : decode cX4_mayRob 38 = .ok (.iload_n 1, 1) := by decide +kernel
theorem dX4_mayRob_39 : decode cX4_mayRob 39 = .ok (.iaload, 1) := by decide +kernel
theorem dX4_mayRob_40 : decode cX4_mayRob 40 = .ok (.if_icmp .gt 32, 3) := by decide +kernel
theorem dX4_mayRob_43 : decode cX4_mayRob 43 = .ok (.aload_n 0, 1) := by decide +kernel
theorem dX4_mayRob_44 : decode cX4_mayRob 44 = .ok (.getfield 27, 3) := by decide +kernel
theorem dX4_mayRob_47 : decode cX4_mayRob 47 = .ok (.iload_n 1, 1) := by decide +kernel
theorem dX4_mayRob_48 : decode cX4_mayRob 48 = .ok (.iaload, 1) := by decide +kernel
theorem dX4_mayRob_49 : decode cX4_mayRob 49 = .ok (.iconst 4, 1) := by decide +kernel
theorem dX4_mayRob_50 : decode cX4_mayRob 50 = .ok (.if_icmp .eq 18, 3) := by decide +kernel
theorem dX4_mayRob_53 : decode cX4_mayRob 53 = .ok (.aload_n 0, 1) := by decide +kernel
theorem dX4_mayRob_54 : decode cX4_mayRob 54 = .ok (.getfield 27, 3) := by decide +kernel
theorem dX4_mayRob_57 : decode cX4_mayRob 57 = .ok (.iload_n 1, 1) := by decide +kernel
theorem dX4_mayRob_58 : decode cX4_mayRob 58 = .ok (.iaload, 1) := by decide +kernel
theorem dX4_mayRob_59 : decode cX4_mayRob 59 = .ok (.aload_n 0, 1) := by decide +kernel
theorem dX4_mayRob_60 : decode cX4_mayRob 60 = .ok (.getfield 15, 3) := by decide +kernel
theorem dX4_mayRob_63 : decode cX4_mayRob 63 = .ok (.iload_n 2, 1) := by decide +kernel
theorem dX4_mayRob_64 : decode cX4_mayRob 64 = .ok (.iaload, 1) := by decide +kernel
theorem dX4_mayRob_65 : decode cX4_mayRob 65 = .ok (.if_icmp .ne 7, 3) := by decide +kernel
theorem dX4_mayRob_68 : decode cX4_mayRob 68 = .ok (.iconst 1, 1) := by decide +kernel
theorem dX4_mayRob_69 : decode cX4_mayRob 69 = .ok (.goto 4, 3) := by decide +kernel
theorem dX4_mayRob_72 : decode cX4_mayRob 72 = .ok (.iconst 0, 1) := by decide +kernel
theorem dX4_mayRob_73 : decode cX4_mayRob 73 = .ok (.ireturn, 1) := by decide +kernel
theorem dX4_whomMayRob_0 : decode cX4_whomMayRob 0 = .ok (.iconst 0, 1) := by decide +kernel
theorem dX4_whomMayRob_1 : decode cX4_whomMayRob 1 = .ok (.istore_n 2, 1) := by decide +kernel
theorem dX4_whomMayRob_2 : decode cX4_whomMayRob 2 = .ok (.iconst 0, 1) := by decide +kernel
theorem dX4_whomMayRob_3 : decode cX4_whomMayRob 3 = .ok (.istore_n 3, 1) := by decide +kernel
theorem dX4_whomMayRob_4 : decode cX4_whomMayRob 4 = .ok (.iload_n 3, 1) := by decide +kernel
theorem dX4_whomMayRob_5 : decode cX4_whomMayRob 5 = .ok (.aload_n 0, 1) := by decide +kernel
theorem dX4_whomMayRob_6 : decode cX4_whomMayRob 6 = .ok (.getfield 43, 3) := by decide +kernel
theorem dX4_whomMayRob_9 : decode cX4_whomMayRob 9 = .ok (.if_icmp .ge 24, 3) := by decide +kernel
theorem dX4_whomMayRob_12 : decode cX4_whomMayRob 12 = .ok (.aload_n 0, 1) := by decide +kernel
theorem dX4_whomMayRob_13 : decode cX4_whomMayRob 13 = .ok (.iload_n 1, 1) := by decide +kernel
theorem dX4_whomMayRob_14 : decode cX4_whomMayRob 14 = .ok (.iload_n 3, 1) := by decide +kernel
theorem dX4_whomMayRob_15 : decode cX4_whomMayRob 15 = .ok (.invokevirtual 66, 3) := by decide +kernel
theorem dX4_whomMayRob_18 : decode cX4_whomMayRob 18 = .ok (.ifCond .eq 9, 3) := by decide +kernel
theorem dX4_whomMayRob_21 : decode cX4_whomMayRob 21 = .ok (.iload_n 2, 1) := by decide +kernel
theorem dX4_whomMayRob_22 : decode cX4_whomMayRob 22 = .ok (.iconst 1, 1) := by decide +kernel
theorem dX4_whomMayRob_23 : decode cX4_whomMayRob 23 = .ok (.iload_n 3, 1) := by decide +kernel
theorem dX4_whomMayRob_24 : decode cX4_whomMayRob 24 = .ok (.ishl, 1) := by decide +kernel
theorem dX4_whomMayRob_25 : decode cX4_whomMayRob 25 = .ok (.ior, 1) := by decide +kernel
theorem dX4_whomMayRob_26 : decode cX4_whomMayRob 26 = .ok (.istore_n 2, 1) := by decide +kernel
theorem dX4_whomMayRob_27 : decode cX4_whomMayRob 27 = .ok (.iinc 3 1, 3) := by decide +kernel
theorem dX4_whomMayRob_30 : decode cX4_whomMayRob 30 = .ok (.goto (-26), 3) := by decide +kernel
theorem dX4_whomMayRob_33 : decode cX4_whomMayRob 33 = .ok (.iload_n 2, 1) := by decide +kernel
theorem dX4_whomMayRob_34 : decode cX4_whomMayRob 34 = .ok (.ireturn, 1) := by decide +kernel
theorem dX4_thievesWhoMayRob_0 : decode cX4_thievesWhoMayRob 0 = .ok (.iconst 0, 1) := by decide +kernel
theorem dX4_thievesWhoMayRob_1 : decode cX4_thievesWhoMayRob 1 = .ok (.istore_n 2, 1) := by decide +kernel
theorem dX4_thievesWhoMayRob_2 : decode cX4_thievesWhoMayRob 2 = .ok (.iconst 0, 1) := by decide +kernel
theorem dX4_thievesWhoMayRob_3 : decode cX4_thievesWhoMayRob 3 = .ok (.istore_n 3, 1) := by decide +kernel
theorem dX4_thievesWhoMayRob_4 : decode cX4_thievesWhoMayRob 4 = .ok (.iload_n 3, 1) := by decide +kernel
theorem dX4_thievesWhoMayRob_5 : decode cX4_thievesWhoMayRob 5 = .ok (.aload_n 0, 1) := by decide +kernel
theorem dX4_thievesWhoMayRob_6 : decode cX4_thievesWhoMayRob 6 = .ok (.getfield 46, 3) := by decide +kernel
theorem dX4_thievesWhoMayRob_9 : decode cX4_thievesWhoMayRob 9 = .ok (.if_icmp .ge 24, 3) := by decide +kernel
theorem dX4_thievesWhoMayRob_12 : decode cX4_thievesWhoMayRob 12 = .ok (.aload_n 0, 1) := by decide +kernel
theorem dX4_thievesWhoMayRob_13 : decode cX4_thievesWhoMayRob 13 = .ok (.iload_n 3, 1) := by decide +kernel
theorem dX4_thievesWhoMayRob_14 : decode cX4_thievesWhoMayRob 14 = .ok (.iload_n 1, 1) := by decide +kernel
theorem dX4_thievesWhoMayRob_15 : decode cX4_thievesWhoMayRob 15 = .ok (.invokevirtual 66, 3) := by decide +kernel
theorem dX4_thievesWhoMayRob_18 : decode cX4_thievesWhoMayRob 18 = .ok (.ifCond .eq 9, 3) := by decide +kernel
theorem dX4_thievesWhoMayRob_21 : decode cX4_thievesWhoMayRob 21 = .ok (.iload_n 2, 1) := by decide +kernel
theorem dX4_thievesWhoMayRob_22 : decode cX4_thievesWhoMayRob 22 = .ok (.iconst 1, 1) := by decide +kernel
theorem dX4_thievesWhoMayRob_23 : decode cX4_thievesWhoMayRob 23 = .ok (.iload_n 3, 1) := by decide +kernel
theorem dX4_thievesWhoMayRob_24 : decode cX4_thievesWhoMayRob 24 = .ok (.ishl, 1) := by decide +kernel
theorem dX4_thievesWhoMayRob_25 : decode cX4_thievesWhoMayRob 25 = .ok (.ior, 1) := by decide +kernel
theorem dX4_thievesWhoMayRob_26 : decode cX4_thievesWhoMayRob 26 = .ok (.istore_n 2, 1) := by decide +kernel
theorem dX4_thievesWhoMayRob_27 : decode cX4_thievesWhoMayRob 27 = .ok (.iinc 3 1, 3) := by decide +kernel
theorem dX4_thievesWhoMayRob_30 : decode cX4_thievesWhoMayRob 30 = .ok (.goto (-26), 3) := by decide +kernel
theorem dX4_thievesWhoMayRob_33 : decode cX4_thievesWhoMayRob 33 = .ok (.iload_n 2, 1) := by decide +kernel
theorem dX4_thievesWhoMayRob_34 : decode cX4_thievesWhoMayRob 34 = .ok (.ireturn, 1) := by decide +kernel
theorem dX4_victim_0 : decode cX4_victim 0 = .ok (.bipush (-4), 2) := by decide +kernel
theorem dX4_victim_2 : decode cX4_victim 2 = .ok (.istore_n 3, 1) := by decide +kernel
theorem dX4_victim_3 : decode cX4_victim 3 = .ok (.iconst 0, 1) := by decide +kernel
theorem dX4_victim_4 : decode cX4_victim 4 = .ok (.istore 4, 2) := by decide +kernel
theorem dX4_victim_6 : decode cX4_victim 6 = .ok (.iload 4, 2) := by decide +kernel
theorem dX4_victim_8 : decode cX4_victim 8 = .ok (.aload_n 0, 1) := by decide +kernel
theorem dX4_victim_9 : decode cX4_victim 9 = .ok (.getfield 43, 3) := by decide +kernel
theorem dX4_victim_12 : decode cX4_victim 12 = .ok (.if_icmp .ge 51, 3) := by decide +kernel
theorem dX4_victim_15 : decode cX4_victim 15 = .ok (.iload_n 2, 1) := by decide +kernel
theorem dX4_victim_16 : decode cX4_victim 16 = .ok (.iload 4, 2) := by decide +kernel
theorem dX4_victim_18 : decode cX4_victim 18 = .ok (.invokestatic 62, 3) := by decide +kernel
theorem dX4_victim_21 : decode cX4_victim 21 = .ok (.ifCond .ne 36, 3) := by decide +kernel
theorem dX4_victim_24 : decode cX4_victim 24 = .ok (.aload_n 0, 1) := by decide +kernel
theorem dX4_victim_25 : decode cX4_victim 25 = .ok (.iload_n 1, 1) := by decide +kernel
theorem dX4_victim_26 : decode cX4_victim 26 = .ok (.iload 4, 2) := by decide +kernel
theorem dX4_victim_28 : decode cX4_victim 28 = .ok (.invokevirtual 66, 3) := by decide +kernel
theorem dX4_victim_31 : decode cX4_victim 31 = .ok (.ifCond .eq 26, 3) := by decide +kernel
theorem dX4_victim_34 : decode cX4_victim 34 = .ok (.iload_n 3, 1) := by decide +kernel
theorem dX4_victim_35 : decode cX4_victim 35 = .ok (.ifCond .lt 19, 3) := by decide +kernel
theorem dX4_victim_38 : decode cX4_victim 38 = .ok (.aload_n 0, 1) := by decide +kernel
theorem dX4_victim_39 : decode cX4_victim 39 = .ok (.getfield 18, 3) := by decide +kernel
theorem dX4_victim_42 : decode cX4_victim 42 = .ok (.iload 4, 2) := by decide +kernel
theorem dX4_victim_44 : decode cX4_victim 44 = .ok (.iaload, 1) := by decide +kernel
theorem dX4_victim_45 : decode cX4_victim 45 = .ok (.aload_n 0, 1) := by decide +kernel
theorem dX4_victim_46 : decode cX4_victim 46 = .ok (.getfield 18, 3) := by decide +kernel
theorem dX4_victim_49 : decode cX4_victim 49 = .ok (.iload_n 3, 1) := by decide +kernel
theorem dX4_victim_50 : decode cX4_victim 50 = .ok (.iaload, 1) := by decide +kernel
theorem dX4_victim_51 : decode cX4_victim 51 = .ok (.if_icmp .le 6, 3) := by decide +kernel
theorem dX4_victim_54 : decode cX4_victim 54 = .ok (.iload 4, 2) := by decide +kernel
theorem dX4_victim_56 : decode cX4_victim 56 = .ok (.istore_n 3, 1) := by decide +kernel
theorem dX4_victim_57 : decode cX4_victim 57 = .ok (.iinc 4 1, 3) := by decide +kernel
theorem dX4_victim_60 : decode cX4_victim 60 = .ok (.goto (-54), 3) := by decide +kernel
theorem dX4_victim_63 : decode cX4_victim 63 = .ok (.iload_n 3, 1) := by decide +kernel
theorem dX4_victim_64 : decode cX4_victim 64 = .ok (.ireturn, 1) := by decide +kernel
theorem dX4_robbedTonight_0 : decode cX4_robbedTonight 0 = .ok (.iconst 0, 1) := by decide +kernel
theorem dX4_robbedTonight_1 : decode cX4_robbedTonight 1 = .ok (.istore_n 2, 1) := by decide +kernel
theorem dX4_robbedTonight_2 : decode cX4_robbedTonight 2 = .ok (.iconst 0, 1) := by decide +kernel
theorem dX4_robbedTonight_3 : decode cX4_robbedTonight 3 = .ok (.istore_n 3, 1) := by decide +kernel
theorem dX4_robbedTonight_4 : decode cX4_robbedTonight 4 = .ok (.iload_n 3, 1) := by decide +kernel
theorem dX4_robbedTonight_5 : decode cX4_robbedTonight 5 = .ok (.aload_n 0, 1) := by decide +kernel
theorem dX4_robbedTonight_6 : decode cX4_robbedTonight 6 = .ok (.getfield 46, 3) := by decide +kernel
theorem dX4_robbedTonight_9 : decode cX4_robbedTonight 9 = .ok (.if_icmp .ge 42, 3) := by decide +kernel
theorem dX4_robbedTonight_12 : decode cX4_robbedTonight 12 = .ok (.iload_n 1, 1) := by decide +kernel
theorem dX4_robbedTonight_13 : decode cX4_robbedTonight 13 = .ok (.iload_n 3, 1) := by decide +kernel
theorem dX4_robbedTonight_14 : decode cX4_robbedTonight 14 = .ok (.invokestatic 62, 3) := by decide +kernel
theorem dX4_robbedTonight_17 : decode cX4_robbedTonight 17 = .ok (.ifCond .eq 8, 3) := by decide +kernel
theorem dX4_robbedTonight_20 : decode cX4_robbedTonight 20 = .ok (.bipush (-4), 2) := by decide +kernel
theorem dX4_robbedTonight_22 : decode cX4_robbedTonight 22 = .ok (.goto 9, 3) := by decide +kernel
theorem dX4_robbedTonight_25 : decode cX4_robbedTonight 25 = .ok (.aload_n 0, 1) := by decide +kernel
theorem dX4_robbedTonight_26 : decode cX4_robbedTonight 26 = .ok (.iload_n 3, 1) := by decide +kernel
theorem dX4_robbedTonight_27 : decode cX4_robbedTonight 27 = .ok (.iload_n 2, 1) := by decide +kernel
theorem dX4_robbedTonight_28 : decode cX4_robbedTonight 28 = .ok (.invokevirtual 69, 3) := by decide +kernel
theorem dX4_robbedTonight_31 : decode cX4_robbedTonight 31 = .ok (.istore 4, 2) := by decide +kernel
theorem dX4_robbedTonight_33 : decode cX4_robbedTonight 33 = .ok (.iload 4, 2) := by decide +kernel
theorem dX4_robbedTonight_35 : decode cX4_robbedTonight 35 = .ok (.ifCond .lt 10, 3) := by decide +kernel
theorem dX4_robbedTonight_38 : decode cX4_robbedTonight 38 = .ok (.iload_n 2, 1) := by decide +kernel
theorem dX4_robbedTonight_39 : decode cX4_robbedTonight 39 = .ok (.iconst 1, 1) := by decide +kernel
theorem dX4_robbedTonight_40 : decode cX4_robbedTonight 40 = .ok (.iload 4, 2) := by decide +kernel
theorem dX4_robbedTonight_42 : decode cX4_robbedTonight 42 = .ok (.ishl, 1) := by decide +kernel
theorem dX4_robbedTonight_43 : decode cX4_robbedTonight 43 = .ok (.ior, 1) := by decide +kernel
theorem dX4_robbedTonight_44 : decode cX4_robbedTonight 44 = .ok (.istore_n 2, 1) := by decide +kernel
theorem dX4_robbedTonight_45 : decode cX4_robbedTonight 45 = .ok (.iinc 3 1, 3) := by decide +kernel
theorem dX4_robbedTonight_48 : decode cX4_robbedTonight 48 = .ok (.goto (-44), 3) := by decide +kernel
theorem dX4_robbedTonight_51 : decode cX4_robbedTonight 51 = .ok (.iload_n 2, 1) := by decide +kernel
theorem dX4_robbedTonight_52 : decode cX4_robbedTonight 52 = .ok (.ireturn, 1) := by decide +kernel
theorem dX4_victimTonight_0 : decode cX4_victimTonight 0 = .ok (.iconst (-1), 1) := by decide +kernel
theorem dX4_victimTonight_1 : decode cX4_victimTonight 1 = .ok (.iload_n 1, 1) := by decide +kernel
theorem dX4_victimTonight_2 : decode cX4_victimTonight 2 = .ok (.ishl, 1) := by decide +kernel
theorem dX4_victimTonight_3 : decode cX4_victimTonight 3 = .ok (.istore_n 2, 1) := by decide +kernel
theorem dX4_victimTonight_4 : decode cX4_victimTonight 4 = .ok (.aload_n 0, 1) := by decide +kernel
theorem dX4_victimTonight_5 : decode cX4_victimTonight 5 = .ok (.iload_n 1, 1) := by decide +kernel
theorem dX4_victimTonight_6 : decode cX4_victimTonight 6 = .ok (.aload_n 0, 1) := by decide +kernel
theorem dX4_victimTonight_7 : decode cX4_victimTonight 7 = .ok (.iload_n 2, 1) := by decide +kernel
theorem dX4_victimTonight_8 : decode cX4_victimTonight 8 = .ok (.invokevirtual 73, 3) := by decide +kernel
theorem dX4_victimTonight_11 : decode cX4_victimTonight 11 = .ok (.invokevirtual 69, 3) := by decide +kernel
theorem dX4_victimTonight_14 : decode cX4_victimTonight 14 = .ok (.ireturn, 1) := by decide +kernel
theorem dX4_pass_0 : decode cX4_pass 0 = .ok (.aload_n 0, 1) := by decide +kernel
theorem dX4_pass_1 : decode cX4_pass 1 = .ok (.iload_n 1, 1) := by decide +kernel
theorem dX4_pass_2 : decode cX4_pass 2 = .ok (.invokevirtual 73, 3) := by decide +kernel
theorem dX4_pass_5 : decode cX4_pass 5 = .ok (.istore_n 2, 1) := by decide +kernel
theorem dX4_pass_6 : decode cX4_pass 6 = .ok (.iconst 0, 1) := by decide +kernel
theorem dX4_pass_7 : decode cX4_pass 7 = .ok (.istore_n 3, 1) := by decide +kernel
theorem dX4_pass_8 : decode cX4_pass 8 = .ok (.iload_n 3, 1) := by decide +kernel
theorem dX4_pass_9 : decode cX4_pass 9 = .ok (.aload_n 0, 1) := by decide +kernel
theorem dX4_pass_10 : decode cX4_pass 10 = .ok (.getfield 43, 3) := by decide +kernel
theorem dX4_pass_13 : decode cX4_pass 13 = .ok (.if_icmp .ge 59, 3) := by decide +kernel
theorem dX4_pass_16 : decode cX4_pass 16 = .ok (.iload_n 2, 1) := by decide +kernel
theorem dX4_pass_17 : decode cX4_pass 17 = .ok (.iload_n 3, 1) := by decide +kernel
theorem dX4_pass_18 : decode cX4_pass 18 = .ok (.invokestatic 62, 3) := by decide +kernel
theorem dX4_pass_21 : decode cX4_pass 21 = .ok (.ifCond .eq 11, 3) := by decide +kernel
theorem dX4_pass_24 : decode cX4_pass 24 = .ok (.aload_n 0, 1) := by decide +kernel
theorem dX4_pass_25 : decode cX4_pass 25 = .ok (.iload_n 3, 1) := by decide +kernel
theorem dX4_pass_26 : decode cX4_pass 26 = .ok (.invokevirtual 77, 3) := by decide +kernel
theorem dX4_pass_29 : decode cX4_pass 29 = .ok (.goto 37, 3) := by decide +kernel
theorem dX4_pass_32 : decode cX4_pass 32 = .ok (.aload_n 0, 1) := by decide +kernel
theorem dX4_pass_33 : decode cX4_pass 33 = .ok (.getfield 52, 3) := by decide +kernel
theorem dX4_pass_36 : decode cX4_pass 36 = .ok (.iload_n 3, 1) := by decide +kernel
theorem dX4_pass_37 : decode cX4_pass 37 = .ok (.invokestatic 62, 3) := by decide +kernel
theorem dX4_pass_40 : decode cX4_pass 40 = .ok (.ifCond .ne 26, 3) := by decide +kernel
theorem dX4_pass_43 : decode cX4_pass 43 = .ok (.aload_n 0, 1) := by decide +kernel
theorem dX4_pass_44 : decode cX4_pass 44 = .ok (.getfield 18, 3) := by decide +kernel
theorem dX4_pass_47 : decode cX4_pass 47 = .ok (.iload_n 3, 1) := by decide +kernel
theorem dX4_pass_48 : decode cX4_pass 48 = .ok (.bipush 99, 2) := by decide +kernel
theorem dX4_pass_50 : decode cX4_pass 50 = .ok (.aload_n 0, 1) := by decide +kernel
theorem dX4_pass_51 : decode cX4_pass 51 = .ok (.getfield 18, 3) := by decide +kernel
theorem dX4_pass_54 : decode cX4_pass 54 = .ok (.iload_n 3, 1) := by decide +kernel
theorem dX4_pass_55 : decode cX4_pass 55 = .ok (.iaload, 1) := by decide +kernel
theorem dX4_pass_56 : decode cX4_pass 56 = .ok (.aload_n 0, 1) := by decide +kernel
theorem dX4_pass_57 : decode cX4_pass 57 = .ok (.iload_n 3, 1) := by decide +kernel
theorem dX4_pass_58 : decode cX4_pass 58 = .ok (.invokevirtual 81, 3) := by decide +kernel
theorem dX4_pass_61 : decode cX4_pass 61 = .ok (.iadd, 1) := by decide +kernel
theorem dX4_pass_62 : decode cX4_pass 62 = .ok (.invokestatic 84, 3) := by decide +kernel
theorem dX4_pass_65 : decode cX4_pass 65 = .ok (.iastore, 1) := by decide +kernel
theorem dX4_pass_66 : decode cX4_pass 66 = .ok (.iinc 3 1, 3) := by decide +kernel
theorem dX4_pass_69 : decode cX4_pass 69 = .ok (.goto (-61), 3) := by decide +kernel
theorem dX4_pass_72 : decode cX4_pass 72 = .ok (.aload_n 0, 1) := by decide +kernel
theorem dX4_pass_73 : decode cX4_pass 73 = .ok (.dup, 1) := by decide +kernel
theorem dX4_pass_74 : decode cX4_pass 74 = .ok (.getfield 55, 3) := by decide +kernel
theorem dX4_pass_77 : decode cX4_pass 77 = .ok (.iconst 1, 1) := by decide +kernel
theorem dX4_pass_78 : decode cX4_pass 78 = .ok (.iadd, 1) := by decide +kernel
theorem dX4_pass_79 : decode cX4_pass 79 = .ok (.putfield 55, 3) := by decide +kernel
theorem dX4_pass_82 : decode cX4_pass 82 = .ok (.return_, 1) := by decide +kernel
theorem dX4_lose_0 : decode cX4_lose 0 = .ok (.aload_n 0, 1) := by decide +kernel
theorem dX4_lose_1 : decode cX4_lose 1 = .ok (.getfield 18, 3) := by decide +kernel
theorem dX4_lose_4 : decode cX4_lose 4 = .ok (.iload_n 1, 1) := by decide +kernel
theorem dX4_lose_5 : decode cX4_lose 5 = .ok (.iaload, 1) := by decide +kernel
theorem dX4_lose_6 : decode cX4_lose 6 = .ok (.aload_n 0, 1) := by decide +kernel
theorem dX4_lose_7 : decode cX4_lose 7 = .ok (.getfield 30, 3) := by decide +kernel
theorem dX4_lose_10 : decode cX4_lose 10 = .ok (.if_icmp .lt 18, 3) := by decide +kernel
theorem dX4_lose_13 : decode cX4_lose 13 = .ok (.aload_n 0, 1) := by decide +kernel
theorem dX4_lose_14 : decode cX4_lose 14 = .ok (.dup, 1) := by decide +kernel
theorem dX4_lose_15 : decode cX4_lose 15 = .ok (.getfield 52, 3) := by decide +kernel
theorem dX4_lose_18 : decode cX4_lose 18 = .ok (.iconst 1, 1) := by decide +kernel
theorem dX4_lose_19 : decode cX4_lose 19 = .ok (.iload_n 1, 1) := by decide +kernel
theorem dX4_lose_20 : decode cX4_lose 20 = .ok (.ishl, 1) := by decide +kernel
theorem dX4_lose_21 : decode cX4_lose 21 = .ok (.ior, 1) := by decide +kernel
theorem dX4_lose_22 : decode cX4_lose 22 = .ok (.putfield 52, 3) := by decide +kernel
theorem dX4_lose_25 : decode cX4_lose 25 = .ok (.goto 26, 3) := by decide +kernel
theorem dX4_lose_28 : decode cX4_lose 28 = .ok (.aload_n 0, 1) := by decide +kernel
theorem dX4_lose_29 : decode cX4_lose 29 = .ok (.getfield 15, 3) := by decide +kernel
theorem dX4_lose_32 : decode cX4_lose 32 = .ok (.iload_n 1, 1) := by decide +kernel
theorem dX4_lose_33 : decode cX4_lose 33 = .ok (.aload_n 0, 1) := by decide +kernel
theorem dX4_lose_34 : decode cX4_lose 34 = .ok (.getfield 15, 3) := by decide +kernel
theorem dX4_lose_37 : decode cX4_lose 37 = .ok (.iload_n 1, 1) := by decide +kernel
theorem dX4_lose_38 : decode cX4_lose 38 = .ok (.iaload, 1) := by decide +kernel
theorem dX4_lose_39 : decode cX4_lose 39 = .ok (.iconst 1, 1) := by decide +kernel
theorem dX4_lose_40 : decode cX4_lose 40 = .ok (.iadd, 1) := by decide +kernel
theorem dX4_lose_41 : decode cX4_lose 41 = .ok (.iconst 4, 1) := by decide +kernel
theorem dX4_lose_42 : decode cX4_lose 42 = .ok (.irem, 1) := by decide +kernel
theorem dX4_lose_43 : decode cX4_lose 43 = .ok (.iastore, 1) := by decide +kernel
theorem dX4_lose_44 : decode cX4_lose 44 = .ok (.aload_n 0, 1) := by decide +kernel
theorem dX4_lose_45 : decode cX4_lose 45 = .ok (.getfield 18, 3) := by decide +kernel
theorem dX4_lose_48 : decode cX4_lose 48 = .ok (.iload_n 1, 1) := by decide +kernel
theorem dX4_lose_49 : decode cX4_lose 49 = .ok (.iconst 0, 1) := by decide +kernel
theorem dX4_lose_50 : decode cX4_lose 50 = .ok (.iastore, 1) := by decide +kernel
theorem dX4_lose_51 : decode cX4_lose 51 = .ok (.return_, 1) := by decide +kernel
theorem dX4_growth_0 : decode cX4_growth 0 = .ok (.iconst 4, 1) := by decide +kernel
theorem dX4_growth_1 : decode cX4_growth 1 = .ok (.istore_n 2, 1) := by decide +kernel
theorem dX4_growth_2 : decode cX4_growth 2 = .ok (.aload_n 0, 1) := by decide +kernel
theorem dX4_growth_3 : decode cX4_growth 3 = .ok (.getfield 55, 3) := by decide +kernel
theorem dX4_growth_6 : decode cX4_growth 6 = .ok (.iconst 2, 1) := by decide +kernel
theorem dX4_growth_7 : decode cX4_growth 7 = .ok (.irem, 1) := by decide +kernel
theorem dX4_growth_8 : decode cX4_growth 8 = .ok (.iconst 1, 1) := by decide +kernel
theorem dX4_growth_9 : decode cX4_growth 9 = .ok (.if_icmp .ne 7, 3) := by decide +kernel
theorem dX4_growth_12 : decode cX4_growth 12 = .ok (.iconst 2, 1) := by decide +kernel
theorem dX4_growth_13 : decode cX4_growth 13 = .ok (.goto 4, 3) := by decide +kernel
theorem dX4_growth_16 : decode cX4_growth 16 = .ok (.iconst 0, 1) := by decide +kernel
theorem dX4_growth_17 : decode cX4_growth 17 = .ok (.istore_n 3, 1) := by decide +kernel
theorem dX4_growth_18 : decode cX4_growth 18 = .ok (.aload_n 0, 1) := by decide +kernel
theorem dX4_growth_19 : decode cX4_growth 19 = .ok (.getfield 9, 3) := by decide +kernel
theorem dX4_growth_22 : decode cX4_growth 22 = .ok (.iload_n 1, 1) := by decide +kernel
theorem dX4_growth_23 : decode cX4_growth 23 = .ok (.iaload, 1) := by decide +kernel
theorem dX4_growth_24 : decode cX4_growth 24 = .ok (.tableswitch 73 1 4 #[32, 34, 36, 55], 32) := by decide +kernel
theorem dX4_growth_56 : decode cX4_growth 56 = .ok (.iload_n 2, 1) := by decide +kernel
theorem dX4_growth_57 : decode cX4_growth 57 = .ok (.ireturn, 1) := by decide +kernel
theorem dX4_growth_58 : decode cX4_growth 58 = .ok (.iload_n 3, 1) := by decide +kernel
theorem dX4_growth_59 : decode cX4_growth 59 = .ok (.ireturn, 1) := by decide +kernel
theorem dX4_growth_60 : decode cX4_growth 60 = .ok (.aload_n 0, 1) := by decide +kernel
theorem dX4_growth_61 : decode cX4_growth 61 = .ok (.getfield 49, 3) := by decide +kernel
theorem dX4_growth_64 : decode cX4_growth 64 = .ok (.iload_n 1, 1) := by decide +kernel
theorem dX4_growth_65 : decode cX4_growth 65 = .ok (.invokestatic 62, 3) := by decide +kernel
theorem dX4_growth_68 : decode cX4_growth 68 = .ok (.ifCond .eq 9, 3) := by decide +kernel
theorem dX4_growth_71 : decode cX4_growth 71 = .ok (.iload_n 2, 1) := by decide +kernel
theorem dX4_growth_72 : decode cX4_growth 72 = .ok (.iconst 3, 1) := by decide +kernel
theorem dX4_growth_73 : decode cX4_growth 73 = .ok (.iadd, 1) := by decide +kernel
theorem dX4_growth_74 : decode cX4_growth 74 = .ok (.goto 4, 3) := by decide +kernel
theorem dX4_growth_77 : decode cX4_growth 77 = .ok (.iload_n 2, 1) := by decide +kernel
theorem dX4_growth_78 : decode cX4_growth 78 = .ok (.ireturn, 1) := by decide +kernel
theorem dX4_growth_79 : decode cX4_growth 79 = .ok (.iload_n 3, 1) := by decide +kernel
theorem dX4_growth_80 : decode cX4_growth 80 = .ok (.iconst 0, 1) := by decide +kernel
theorem dX4_growth_81 : decode cX4_growth 81 = .ok (.bipush 6, 2) := by decide +kernel
theorem dX4_growth_83 : decode cX4_growth 83 = .ok (.aload_n 0, 1) := by decide +kernel
theorem dX4_growth_84 : decode cX4_growth 84 = .ok (.getfield 18, 3) := by decide +kernel
theorem dX4_growth_87 : decode cX4_growth 87 = .ok (.iload_n 1, 1) := by decide +kernel
theorem dX4_growth_88 : decode cX4_growth 88 = .ok (.iaload, 1) := by decide +kernel
theorem dX4_growth_89 : decode cX4_growth 89 = .ok (.isub, 1) := by decide +kernel
theorem dX4_growth_90 : decode cX4_growth 90 = .ok (.invokestatic 89, 3) := by decide +kernel
theorem dX4_growth_93 : decode cX4_growth 93 = .ok (.invokestatic 84, 3) := by decide +kernel
theorem dX4_growth_96 : decode cX4_growth 96 = .ok (.ireturn, 1) := by decide +kernel
theorem dX4_growth_97 : decode cX4_growth 97 = .ok (.iconst 2, 1) := by decide +kernel
theorem dX4_growth_98 : decode cX4_growth 98 = .ok (.ireturn, 1) := by decide +kernel
theorem dX4_drawWhoShows_0 : decode cX4_drawWhoShows 0 = .ok (.aload_n 0, 1) := by decide +kernel
theorem dX4_drawWhoShows_1 : decode cX4_drawWhoShows 1 = .ok (.aload_n 0, 1) := by decide +kernel
theorem dX4_drawWhoShows_2 : decode cX4_drawWhoShows 2 = .ok (.getfield 34, 3) := by decide +kernel
theorem dX4_drawWhoShows_5 : decode cX4_drawWhoShows 5 = .ok (.ldc 92, 2) := by decide +kernel
theorem dX4_drawWhoShows_7 : decode cX4_drawWhoShows 7 = .ok (.imul, 1) := by decide +kernel
theorem dX4_drawWhoShows_8 : decode cX4_drawWhoShows 8 = .ok (.sipush 12345, 3) := by decide +kernel
theorem dX4_drawWhoShows_11 : decode cX4_drawWhoShows 11 = .ok (.iadd, 1) := by decide +kernel
theorem dX4_drawWhoShows_12 : decode cX4_drawWhoShows 12 = .ok (.ldc 93, 2) := by decide +kernel
theorem dX4_drawWhoShows_14 : decode cX4_drawWhoShows 14 = .ok (.iand, 1) := by decide +kernel
theorem dX4_drawWhoShows_15 : decode cX4_drawWhoShows 15 = .ok (.putfield 34, 3) := by decide +kernel
theorem dX4_drawWhoShows_18 : decode cX4_drawWhoShows 18 = .ok (.aload_n 0, 1) := by decide +kernel
theorem dX4_drawWhoShows_19 : decode cX4_drawWhoShows 19 = .ok (.getfield 43, 3) := by decide +kernel
theorem dX4_drawWhoShows_22 : decode cX4_drawWhoShows 22 = .ok (.ifCond .le 37, 3) := by decide +kernel
theorem dX4_drawWhoShows_25 : decode cX4_drawWhoShows 25 = .ok (.aload_n 0, 1) := by decide +kernel
theorem dX4_drawWhoShows_26 : decode cX4_drawWhoShows 26 = .ok (.aload_n 0, 1) := by decide +kernel
theorem dX4_drawWhoShows_27 : decode cX4_drawWhoShows 27 = .ok (.getfield 34, 3) := by decide +kernel
theorem dX4_drawWhoShows_30 : decode cX4_drawWhoShows 30 = .ok (.ldc 94, 2) := by decide +kernel
theorem dX4_drawWhoShows_32 : decode cX4_drawWhoShows 32 = .ok (.idiv, 1) := by decide +kernel
theorem dX4_drawWhoShows_33 : decode cX4_drawWhoShows 33 = .ok (.aload_n 0, 1) := by decide +kernel
theorem dX4_drawWhoShows_34 : decode cX4_drawWhoShows 34 = .ok (.getfield 43, 3) := by decide +kernel
theorem dX4_drawWhoShows_37 : decode cX4_drawWhoShows 37 = .ok (.irem, 1) := by decide +kernel
theorem dX4_drawWhoShows_38 : decode cX4_drawWhoShows 38 = .ok (.aload_n 0, 1) := by decide +kernel
theorem dX4_drawWhoShows_39 : decode cX4_drawWhoShows 39 = .ok (.getfield 34, 3) := by decide +kernel
theorem dX4_drawWhoShows_42 : decode cX4_drawWhoShows 42 = .ok (.sipush 128, 3) := by decide +kernel
theorem dX4_drawWhoShows_45 : decode cX4_drawWhoShows 45 = .ok (.idiv, 1) := by decide +kernel
theorem dX4_drawWhoShows_46 : decode cX4_drawWhoShows 46 = .ok (.iconst 2, 1) := by decide +kernel
theorem dX4_drawWhoShows_47 : decode cX4_drawWhoShows 47 = .ok (.irem, 1) := by decide +kernel
theorem dX4_drawWhoShows_48 : decode cX4_drawWhoShows 48 = .ok (.ifCond .ne 7, 3) := by decide +kernel
theorem dX4_drawWhoShows_51 : decode cX4_drawWhoShows 51 = .ok (.iconst 1, 1) := by decide +kernel
theorem dX4_drawWhoShows_52 : decode cX4_drawWhoShows 52 = .ok (.goto 4, 3) := by decide +kernel
theorem dX4_drawWhoShows_55 : decode cX4_drawWhoShows 55 = .ok (.iconst 0, 1) := by decide +kernel
theorem dX4_drawWhoShows_56 : decode cX4_drawWhoShows 56 = .ok (.invokevirtual 58, 3) := by decide +kernel
theorem dX4_drawWhoShows_59 : decode cX4_drawWhoShows 59 = .ok (.return_, 1) := by decide +kernel
theorem dX4_mostRobbedAtOnce_0 : decode cX4_mostRobbedAtOnce 0 = .ok (.aload_n 0, 1) := by decide +kernel
theorem dX4_mostRobbedAtOnce_1 : decode cX4_mostRobbedAtOnce 1 = .ok (.getfield 46, 3) := by decide +kernel
theorem dX4_mostRobbedAtOnce_4 : decode cX4_mostRobbedAtOnce 4 = .ok (.istore_n 1, 1) := by decide +kernel
theorem dX4_mostRobbedAtOnce_5 : decode cX4_mostRobbedAtOnce 5 = .ok (.iconst 0, 1) := by decide +kernel
theorem dX4_mostRobbedAtOnce_6 : decode cX4_mostRobbedAtOnce 6 = .ok (.istore_n 2, 1) := by decide +kernel
theorem dX4_mostRobbedAtOnce_7 : decode cX4_mostRobbedAtOnce 7 = .ok (.iload_n 2, 1) := by decide +kernel
theorem dX4_mostRobbedAtOnce_8 : decode cX4_mostRobbedAtOnce 8 = .ok (.iconst 1, 1) := by decide +kernel
theorem dX4_mostRobbedAtOnce_9 : decode cX4_mostRobbedAtOnce 9 = .ok (.aload_n 0, 1) := by decide +kernel
theorem dX4_mostRobbedAtOnce_10 : decode cX4_mostRobbedAtOnce 10 = .ok (.getfield 46, 3) := by decide +kernel
theorem dX4_mostRobbedAtOnce_13 : decode cX4_mostRobbedAtOnce 13 = .ok (.ishl, 1) := by decide +kernel
theorem dX4_mostRobbedAtOnce_14 : decode cX4_mostRobbedAtOnce 14 = .ok (.if_icmp .ge 66, 3) := by decide +kernel
theorem dX4_mostRobbedAtOnce_17 : decode cX4_mostRobbedAtOnce 17 = .ok (.iconst 0, 1) := by decide +kernel
theorem dX4_mostRobbedAtOnce_18 : decode cX4_mostRobbedAtOnce 18 = .ok (.istore_n 3, 1) := by decide +kernel
theorem dX4_mostRobbedAtOnce_19 : decode cX4_mostRobbedAtOnce 19 = .ok (.iconst 0, 1) := by decide +kernel
theorem dX4_mostRobbedAtOnce_20 : decode cX4_mostRobbedAtOnce 20 = .ok (.istore 4, 2) := by decide +kernel
theorem dX4_mostRobbedAtOnce_22 : decode cX4_mostRobbedAtOnce 22 = .ok (.iload 4, 2) := by decide +kernel
theorem dX4_mostRobbedAtOnce_24 : decode cX4_mostRobbedAtOnce 24 = .ok (.aload_n 0, 1) := by decide +kernel
theorem dX4_mostRobbedAtOnce_25 : decode cX4_mostRobbedAtOnce 25 = .ok (.getfield 46, 3) := by decide +kernel
theorem dX4_mostRobbedAtOnce_28 : decode cX4_mostRobbedAtOnce 28 = .ok (.if_icmp .ge 27, 3) := by decide +kernel
theorem dX4_mostRobbedAtOnce_31 : decode cX4_mostRobbedAtOnce 31 = .ok (.iload_n 2, 1) := by decide +kernel
theorem dX4_mostRobbedAtOnce_32 : decode cX4_mostRobbedAtOnce 32 = .ok (.iload 4, 2) := by decide +kernel
theorem dX4_mostRobbedAtOnce_34 : decode cX4_mostRobbedAtOnce 34 = .ok (.invokestatic 62, 3) := by decide +kernel
theorem dX4_mostRobbedAtOnce_37 : decode cX4_mostRobbedAtOnce 37 = .ok (.ifCond .eq 12, 3) := by decide +kernel
theorem dX4_mostRobbedAtOnce_40 : decode cX4_mostRobbedAtOnce 40 = .ok (.iload_n 3, 1) := by decide +kernel
theorem dX4_mostRobbedAtOnce_41 : decode cX4_mostRobbedAtOnce 41 = .ok (.aload_n 0, 1) := by decide +kernel
theorem dX4_mostRobbedAtOnce_42 : decode cX4_mostRobbedAtOnce 42 = .ok (.iload 4, 2) := by decide +kernel
theorem dX4_mostRobbedAtOnce_44 : decode cX4_mostRobbedAtOnce 44 = .ok (.invokevirtual 95, 3) := by decide +kernel
theorem dX4_mostRobbedAtOnce_47 : decode cX4_mostRobbedAtOnce 47 = .ok (.ior, 1) := by decide +kernel
theorem dX4_mostRobbedAtOnce_48 : decode cX4_mostRobbedAtOnce 48 = .ok (.istore_n 3, 1) := by decide +kernel
theorem dX4_mostRobbedAtOnce_49 : decode cX4_mostRobbedAtOnce 49 = .ok (.iinc 4 1, 3) := by decide +kernel
theorem dX4_mostRobbedAtOnce_52 : decode cX4_mostRobbedAtOnce 52 = .ok (.goto (-30), 3) := by decide +kernel
theorem dX4_mostRobbedAtOnce_55 : decode cX4_mostRobbedAtOnce 55 = .ok (.iload_n 1, 1) := by decide +kernel
theorem dX4_mostRobbedAtOnce_56 : decode cX4_mostRobbedAtOnce 56 = .ok (.aload_n 0, 1) := by decide +kernel
theorem dX4_mostRobbedAtOnce_57 : decode cX4_mostRobbedAtOnce 57 = .ok (.getfield 46, 3) := by decide +kernel
theorem dX4_mostRobbedAtOnce_60 : decode cX4_mostRobbedAtOnce 60 = .ok (.iload_n 2, 1) := by decide +kernel
theorem dX4_mostRobbedAtOnce_61 : decode cX4_mostRobbedAtOnce 61 = .ok (.invokestatic 98, 3) := by decide +kernel
theorem dX4_mostRobbedAtOnce_64 : decode cX4_mostRobbedAtOnce 64 = .ok (.isub, 1) := by decide +kernel
theorem dX4_mostRobbedAtOnce_65 : decode cX4_mostRobbedAtOnce 65 = .ok (.iload_n 3, 1) := by decide +kernel
theorem dX4_mostRobbedAtOnce_66 : decode cX4_mostRobbedAtOnce 66 = .ok (.invokestatic 98, 3) := by decide +kernel
theorem dX4_mostRobbedAtOnce_69 : decode cX4_mostRobbedAtOnce 69 = .ok (.iadd, 1) := by decide +kernel
theorem dX4_mostRobbedAtOnce_70 : decode cX4_mostRobbedAtOnce 70 = .ok (.invokestatic 84, 3) := by decide +kernel
theorem dX4_mostRobbedAtOnce_73 : decode cX4_mostRobbedAtOnce 73 = .ok (.istore_n 1, 1) := by decide +kernel
theorem dX4_mostRobbedAtOnce_74 : decode cX4_mostRobbedAtOnce 74 = .ok (.iinc 2 1, 3) := by decide +kernel
theorem dX4_mostRobbedAtOnce_77 : decode cX4_mostRobbedAtOnce 77 = .ok (.goto (-70), 3) := by decide +kernel
theorem dX4_mostRobbedAtOnce_80 : decode cX4_mostRobbedAtOnce 80 = .ok (.iload_n 1, 1) := by decide +kernel
theorem dX4_mostRobbedAtOnce_81 : decode cX4_mostRobbedAtOnce 81 = .ok (.ireturn, 1) := by decide +kernel
theorem dX4_waysRobbed_0 : decode cX4_waysRobbed 0 = .ok (.iconst 0, 1) := by decide +kernel
theorem dX4_waysRobbed_1 : decode cX4_waysRobbed 1 = .ok (.istore_n 3, 1) := by decide +kernel
theorem dX4_waysRobbed_2 : decode cX4_waysRobbed 2 = .ok (.iconst 0, 1) := by decide +kernel
theorem dX4_waysRobbed_3 : decode cX4_waysRobbed 3 = .ok (.istore 4, 2) := by decide +kernel
theorem dX4_waysRobbed_5 : decode cX4_waysRobbed 5 = .ok (.iload 4, 2) := by decide +kernel
theorem dX4_waysRobbed_7 : decode cX4_waysRobbed 7 = .ok (.iconst 1, 1) := by decide +kernel
theorem dX4_waysRobbed_8 : decode cX4_waysRobbed 8 = .ok (.aload_n 0, 1) := by decide +kernel
theorem dX4_waysRobbed_9 : decode cX4_waysRobbed 9 = .ok (.getfield 46, 3) := by decide +kernel
theorem dX4_waysRobbed_12 : decode cX4_waysRobbed 12 = .ok (.ishl, 1) := by decide +kernel
theorem dX4_waysRobbed_13 : decode cX4_waysRobbed 13 = .ok (.if_icmp .ge 53, 3) := by decide +kernel
theorem dX4_waysRobbed_16 : decode cX4_waysRobbed 16 = .ok (.aload_n 0, 1) := by decide +kernel
theorem dX4_waysRobbed_17 : decode cX4_waysRobbed 17 = .ok (.iload 4, 2) := by decide +kernel
theorem dX4_waysRobbed_19 : decode cX4_waysRobbed 19 = .ok (.invokevirtual 73, 3) := by decide +kernel
theorem dX4_waysRobbed_22 : decode cX4_waysRobbed 22 = .ok (.iload_n 1, 1) := by decide +kernel
theorem dX4_waysRobbed_23 : decode cX4_waysRobbed 23 = .ok (.invokestatic 62, 3) := by decide +kernel
theorem dX4_waysRobbed_26 : decode cX4_waysRobbed 26 = .ok (.ifCond .eq 34, 3) := by decide +kernel
theorem dX4_waysRobbed_29 : decode cX4_waysRobbed 29 = .ok (.iload 4, 2) := by decide +kernel
theorem dX4_waysRobbed_31 : decode cX4_waysRobbed 31 = .ok (.invokestatic 98, 3) := by decide +kernel
theorem dX4_waysRobbed_34 : decode cX4_waysRobbed 34 = .ok (.istore 5, 2) := by decide +kernel
theorem dX4_waysRobbed_36 : decode cX4_waysRobbed 36 = .ok (.iload_n 3, 1) := by decide +kernel
theorem dX4_waysRobbed_37 : decode cX4_waysRobbed 37 = .ok (.iload_n 2, 1) := by decide +kernel
theorem dX4_waysRobbed_38 : decode cX4_waysRobbed 38 = .ok (.iload 5, 2) := by decide +kernel
theorem dX4_waysRobbed_40 : decode cX4_waysRobbed 40 = .ok (.invokestatic 103, 3) := by decide +kernel
theorem dX4_waysRobbed_43 : decode cX4_waysRobbed 43 = .ok (.bipush 10, 2) := by decide +kernel
theorem dX4_waysRobbed_45 : decode cX4_waysRobbed 45 = .ok (.iload_n 2, 1) := by decide +kernel
theorem dX4_waysRobbed_46 : decode cX4_waysRobbed 46 = .ok (.isub, 1) := by decide +kernel
theorem dX4_waysRobbed_47 : decode cX4_waysRobbed 47 = .ok (.aload_n 0, 1) := by decide +kernel
theorem dX4_waysRobbed_48 : decode cX4_waysRobbed 48 = .ok (.getfield 46, 3) := by decide +kernel
theorem dX4_waysRobbed_51 : decode cX4_waysRobbed 51 = .ok (.iload 5, 2) := by decide +kernel
theorem dX4_waysRobbed_53 : decode cX4_waysRobbed 53 = .ok (.isub, 1) := by decide +kernel
theorem dX4_waysRobbed_54 : decode cX4_waysRobbed 54 = .ok (.invokestatic 103, 3) := by decide +kernel
theorem dX4_waysRobbed_57 : decode cX4_waysRobbed 57 = .ok (.imul, 1) := by decide +kernel
theorem dX4_waysRobbed_58 : decode cX4_waysRobbed 58 = .ok (.iadd, 1) := by decide +kernel
theorem dX4_waysRobbed_59 : decode cX4_waysRobbed 59 = .ok (.istore_n 3, 1) := by decide +kernel
theorem dX4_waysRobbed_60 : decode cX4_waysRobbed 60 = .ok (.iinc 4 1, 3) := by decide +kernel
theorem dX4_waysRobbed_63 : decode cX4_waysRobbed 63 = .ok (.goto (-58), 3) := by decide +kernel
theorem dX4_waysRobbed_66 : decode cX4_waysRobbed 66 = .ok (.iload_n 3, 1) := by decide +kernel
theorem dX4_waysRobbed_67 : decode cX4_waysRobbed 67 = .ok (.ireturn, 1) := by decide +kernel
theorem dX5_init_0 : decode cX5_init 0 = .ok (.aload_n 0, 1) := by decide +kernel
theorem dX5_init_1 : decode cX5_init 1 = .ok (.invokespecial 1, 3) := by decide +kernel
theorem dX5_init_4 : decode cX5_init 4 = .ok (.aload_n 0, 1) := by decide +kernel
theorem dX5_init_5 : decode cX5_init 5 = .ok (.new 7, 3) := by decide +kernel
theorem dX5_init_8 : decode cX5_init 8 = .ok (.dup, 1) := by decide +kernel
theorem dX5_init_9 : decode cX5_init 9 = .ok (.invokespecial 9, 3) := by decide +kernel
theorem dX5_init_12 : decode cX5_init 12 = .ok (.putfield 10, 3) := by decide +kernel
theorem dX5_init_15 : decode cX5_init 15 = .ok (.aload_n 0, 1) := by decide +kernel
theorem dX5_init_16 : decode cX5_init 16 = .ok (.new 16, 3) := by decide +kernel
theorem dX5_init_19 : decode cX5_init 19 = .ok (.dup, 1) := by decide +kernel
theorem dX5_init_20 : decode cX5_init 20 = .ok (.invokespecial 18, 3) := by decide +kernel
theorem dX5_init_23 : decode cX5_init 23 = .ok (.putfield 19, 3) := by decide +kernel
theorem dX5_init_26 : decode cX5_init 26 = .ok (.aload_n 0, 1) := by decide +kernel
theorem dX5_init_27 : decode cX5_init 27 = .ok (.new 7, 3) := by decide +kernel
theorem dX5_init_30 : decode cX5_init 30 = .ok (.dup, 1) := by decide +kernel
theorem dX5_init_31 : decode cX5_init 31 = .ok (.invokespecial 9, 3) := by decide +kernel
theorem dX5_init_34 : decode cX5_init 34 = .ok (.putfield 23, 3) := by decide +kernel
theorem dX5_init_37 : decode cX5_init 37 = .ok (.aload_n 0, 1) := by decide +kernel
theorem dX5_init_38 : decode cX5_init 38 = .ok (.new 16, 3) := by decide +kernel
theorem dX5_init_41 : decode cX5_init 41 = .ok (.dup, 1) := by decide +kernel
theorem dX5_init_42 : decode cX5_init 42 = .ok (.invokespecial 18, 3) := by decide +kernel
theorem dX5_init_45 : decode cX5_init 45 = .ok (.putfield 26, 3) := by decide +kernel
theorem dX5_init_48 : decode cX5_init 48 = .ok (.aload_n 0, 1) := by decide +kernel
theorem dX5_init_49 : decode cX5_init 49 = .ok (.new 29, 3) := by decide +kernel
theorem dX5_init_52 : decode cX5_init 52 = .ok (.dup, 1) := by decide +kernel
theorem dX5_init_53 : decode cX5_init 53 = .ok (.invokespecial 31, 3) := by decide +kernel
theorem dX5_init_56 : decode cX5_init 56 = .ok (.putfield 32, 3) := by decide +kernel
theorem dX5_init_59 : decode cX5_init 59 = .ok (.aload_n 0, 1) := by decide +kernel
theorem dX5_init_60 : decode cX5_init 60 = .ok (.new 36, 3) := by decide +kernel
theorem dX5_init_63 : decode cX5_init 63 = .ok (.dup, 1) := by decide +kernel
theorem dX5_init_64 : decode cX5_init 64 = .ok (.invokespecial 38, 3) := by decide +kernel
theorem dX5_init_67 : decode cX5_init 67 = .ok (.putfield 39, 3) := by decide +kernel
theorem dX5_init_70 : decode cX5_init 70 = .ok (.aload_n 0, 1) := by decide +kernel
theorem dX5_init_71 : decode cX5_init 71 = .ok (.new 7, 3) := by decide +kernel
theorem dX5_init_74 : decode cX5_init 74 = .ok (.dup, 1) := by decide +kernel
theorem dX5_init_75 : decode cX5_init 75 = .ok (.invokespecial 9, 3) := by decide +kernel
theorem dX5_init_78 : decode cX5_init 78 = .ok (.putfield 43, 3) := by decide +kernel
theorem dX5_init_81 : decode cX5_init 81 = .ok (.aload_n 0, 1) := by decide +kernel
theorem dX5_init_82 : decode cX5_init 82 = .ok (.iconst 4, 1) := by decide +kernel
theorem dX5_init_83 : decode cX5_init 83 = .ok (.anewarray 46, 3) := by decide +kernel
theorem dX5_init_86 : decode cX5_init 86 = .ok (.putfield 48, 3) := by decide +kernel
theorem dX5_init_89 : decode cX5_init 89 = .ok (.iconst 0, 1) := by decide +kernel
theorem dX5_init_90 : decode cX5_init 90 = .ok (.istore_n 1, 1) := by decide +kernel
theorem dX5_init_91 : decode cX5_init 91 = .ok (.iload_n 1, 1) := by decide +kernel
theorem dX5_init_92 : decode cX5_init 92 = .ok (.iconst 4, 1) := by decide +kernel
theorem dX5_init_93 : decode cX5_init 93 = .ok (.if_icmp .ge 22, 3) := by decide +kernel
theorem dX5_init_96 : decode cX5_init 96 = .ok (.aload_n 0, 1) := by decide +kernel
theorem dX5_init_97 : decode cX5_init 97 = .ok (.getfield 48, 3) := by decide +kernel
theorem dX5_init_100 : decode cX5_init 100 = .ok (.iload_n 1, 1) := by decide +kernel
theorem dX5_init_101 : decode cX5_init 101 = .ok (.new 46, 3) := by decide +kernel
theorem dX5_init_104 : decode cX5_init 104 = .ok (.dup, 1) := by decide +kernel
theorem dX5_init_105 : decode cX5_init 105 = .ok (.invokespecial 52, 3) := by decide +kernel
theorem dX5_init_108 : decode cX5_init 108 = .ok (.aastore, 1) := by decide +kernel
theorem dX5_init_109 : decode cX5_init 109 = .ok (.iinc 1 1, 3) := by decide +kernel
theorem dX5_init_112 : decode cX5_init 112 = .ok (.goto (-21), 3) := by decide +kernel
theorem dX5_init_115 : decode cX5_init 115 = .ok (.return_, 1) := by decide +kernel
theorem dX5_apprentice_0 : decode cX5_apprentice 0 = .ok (.iload_n 1, 1) := by decide +kernel
theorem dX5_apprentice_1 : decode cX5_apprentice 1 = .ok (.iconst 0, 1) := by decide +kernel
theorem dX5_apprentice_2 : decode cX5_apprentice 2 = .ok (.iconst 4, 1) := by decide +kernel
theorem dX5_apprentice_3 : decode cX5_apprentice 3 = .ok (.invokestatic 53, 3) := by decide +kernel
theorem dX5_apprentice_6 : decode cX5_apprentice 6 = .ok (.ifCond .eq 22, 3) := by decide +kernel
theorem dX5_apprentice_9 : decode cX5_apprentice 9 = .ok (.iload_n 2, 1) := by decide +kernel
theorem dX5_apprentice_10 : decode cX5_apprentice 10 = .ok (.iconst 0, 1) := by decide +kernel
theorem dX5_apprentice_11 : decode cX5_apprentice 11 = .ok (.iconst 3, 1) := by decide +kernel
theorem dX5_apprentice_12 : decode cX5_apprentice 12 = .ok (.invokestatic 53, 3) := by decide +kernel
theorem dX5_apprentice_15 : decode cX5_apprentice 15 = .ok (.ifCond .eq 13, 3) := by decide +kernel
theorem dX5_apprentice_18 : decode cX5_apprentice 18 = .ok (.iload_n 3, 1) := by decide +kernel
theorem dX5_apprentice_19 : decode cX5_apprentice 19 = .ok (.iconst 0, 1) := by decide +kernel
theorem dX5_apprentice_20 : decode cX5_apprentice 20 = .ok (.bipush 9, 2) := by decide +kernel
theorem dX5_apprentice_22 : decode cX5_apprentice 22 = .ok (.invokestatic 53, 3) := by decide +kernel
theorem dX5_apprentice_25 : decode cX5_apprentice 25 = .ok (.ifCond .ne 5, 3) := by decide +kernel
theorem dX5_apprentice_28 : decode cX5_apprentice 28 = .ok (.iconst (-1), 1) := by decide +kernel
theorem dX5_apprentice_29 : decode cX5_apprentice 29 = .ok (.ireturn, 1) := by decide +kernel
theorem dX5_apprentice_30 : decode cX5_apprentice 30 = .ok (.aload_n 0, 1) := by decide +kernel
theorem dX5_apprentice_31 : decode cX5_apprentice 31 = .ok (.getfield 10, 3) := by decide +kernel
theorem dX5_apprentice_34 : decode cX5_apprentice 34 = .ok (.getfield 57, 3) := by decide +kernel
theorem dX5_apprentice_37 : decode cX5_apprentice 37 = .ok (.bipush 6, 2) := by decide +kernel
theorem dX5_apprentice_39 : decode cX5_apprentice 39 = .ok (.if_icmp .lt 6, 3) := by decide +kernel
theorem dX5_apprentice_42 : decode cX5_apprentice 42 = .ok (.bipush (-3), 2) := by decide +kernel
theorem dX5_apprentice_44 : decode cX5_apprentice 44 = .ok (.ireturn, 1) := by decide +kernel
theorem dX5_apprentice_45 : decode cX5_apprentice 45 = .ok (.aload_n 0, 1) := by decide +kernel
theorem dX5_apprentice_46 : decode cX5_apprentice 46 = .ok (.getfield 19, 3) := by decide +kernel
theorem dX5_apprentice_49 : decode cX5_apprentice 49 = .ok (.invokevirtual 61, 3) := by decide +kernel
theorem dX5_apprentice_52 : decode cX5_apprentice 52 = .ok (.aload_n 0, 1) := by decide +kernel
theorem dX5_apprentice_53 : decode cX5_apprentice 53 = .ok (.getfield 10, 3) := by decide +kernel
theorem dX5_apprentice_56 : decode cX5_apprentice 56 = .ok (.iload_n 1, 1) := by decide +kernel
theorem dX5_apprentice_57 : decode cX5_apprentice 57 = .ok (.iload_n 2, 1) := by decide +kernel
theorem dX5_apprentice_58 : decode cX5_apprentice 58 = .ok (.iload_n 3, 1) := by decide +kernel
theorem dX5_apprentice_59 : decode cX5_apprentice 59 = .ok (.invokevirtual 64, 3) := by decide +kernel
theorem dX5_apprentice_62 : decode cX5_apprentice 62 = .ok (.ireturn, 1) := by decide +kernel
theorem dX5_thief_0 : decode cX5_thief 0 = .ok (.iload_n 1, 1) := by decide +kernel
theorem dX5_thief_1 : decode cX5_thief 1 = .ok (.iconst 0, 1) := by decide +kernel
theorem dX5_thief_2 : decode cX5_thief 2 = .ok (.bipush 9, 2) := by decide +kernel
theorem dX5_thief_4 : decode cX5_thief 4 = .ok (.invokestatic 53, 3) := by decide +kernel
theorem dX5_thief_7 : decode cX5_thief 7 = .ok (.ifCond .eq 12, 3) := by decide +kernel
theorem dX5_thief_10 : decode cX5_thief 10 = .ok (.iload_n 2, 1) := by decide +kernel
theorem dX5_thief_11 : decode cX5_thief 11 = .ok (.iconst 0, 1) := by decide +kernel
theorem dX5_thief_12 : decode cX5_thief 12 = .ok (.iconst 4, 1) := by decide +kernel
theorem dX5_thief_13 : decode cX5_thief 13 = .ok (.invokestatic 53, 3) := by decide +kernel
theorem dX5_thief_16 : decode cX5_thief 16 = .ok (.ifCond .ne 5, 3) := by decide +kernel
theorem dX5_thief_19 : decode cX5_thief 19 = .ok (.iconst (-1), 1) := by decide +kernel
theorem dX5_thief_20 : decode cX5_thief 20 = .ok (.ireturn, 1) := by decide +kernel
theorem dX5_thief_21 : decode cX5_thief 21 = .ok (.aload_n 0, 1) := by decide +kernel
theorem dX5_thief_22 : decode cX5_thief 22 = .ok (.getfield 10, 3) := by decide +kernel
theorem dX5_thief_25 : decode cX5_thief 25 = .ok (.getfield 68, 3) := by decide +kernel
theorem dX5_thief_28 : decode cX5_thief 28 = .ok (.iconst 4, 1) := by decide +kernel
theorem dX5_thief_29 : decode cX5_thief 29 = .ok (.if_icmp .lt 6, 3) := by decide +kernel
theorem dX5_thief_32 : decode cX5_thief 32 = .ok (.bipush (-3), 2) := by decide +kernel
theorem dX5_thief_34 : decode cX5_thief 34 = .ok (.ireturn, 1) := by decide +kernel
theorem dX5_thief_35 : decode cX5_thief 35 = .ok (.aload_n 0, 1) := by decide +kernel
theorem dX5_thief_36 : decode cX5_thief 36 = .ok (.getfield 19, 3) := by decide +kernel
theorem dX5_thief_39 : decode cX5_thief 39 = .ok (.invokevirtual 61, 3) := by decide +kernel
theorem dX5_thief_42 : decode cX5_thief 42 = .ok (.aload_n 0, 1) := by decide +kernel
theorem dX5_thief_43 : decode cX5_thief 43 = .ok (.getfield 10, 3) := by decide +kernel
theorem dX5_thief_46 : decode cX5_thief 46 = .ok (.iload_n 1, 1) := by decide +kernel
theorem dX5_thief_47 : decode cX5_thief 47 = .ok (.iload_n 2, 1) := by decide +kernel
theorem dX5_thief_48 : decode cX5_thief 48 = .ok (.invokevirtual 71, 3) := by decide +kernel
theorem dX5_thief_51 : decode cX5_thief 51 = .ok (.ireturn, 1) := by decide +kernel
theorem dX5_bar_0 : decode cX5_bar 0 = .ok (.iload_n 1, 1) := by decide +kernel
theorem dX5_bar_1 : decode cX5_bar 1 = .ok (.iconst 0, 1) := by decide +kernel
theorem dX5_bar_2 : decode cX5_bar 2 = .ok (.bipush 99, 2) := by decide +kernel
theorem dX5_bar_4 : decode cX5_bar 4 = .ok (.invokestatic 53, 3) := by decide +kernel
theorem dX5_bar_7 : decode cX5_bar 7 = .ok (.ifCond .ne 5, 3) := by decide +kernel
theorem dX5_bar_10 : decode cX5_bar 10 = .ok (.iconst (-1), 1) := by decide +kernel
theorem dX5_bar_11 : decode cX5_bar 11 = .ok (.ireturn, 1) := by decide +kernel
theorem dX5_bar_12 : decode cX5_bar 12 = .ok (.aload_n 0, 1) := by decide +kernel
theorem dX5_bar_13 : decode cX5_bar 13 = .ok (.getfield 10, 3) := by decide +kernel
theorem dX5_bar_16 : decode cX5_bar 16 = .ok (.getfield 75, 3) := by decide +kernel
theorem dX5_bar_19 : decode cX5_bar 19 = .ok (.istore_n 2, 1) := by decide +kernel
theorem dX5_bar_20 : decode cX5_bar 20 = .ok (.aload_n 0, 1) := by decide +kernel
theorem dX5_bar_21 : decode cX5_bar 21 = .ok (.getfield 10, 3) := by decide +kernel
theorem dX5_bar_24 : decode cX5_bar 24 = .ok (.iload_n 1, 1) := by decide +kernel
theorem dX5_bar_25 : decode cX5_bar 25 = .ok (.putfield 75, 3) := by decide +kernel
theorem dX5_bar_28 : decode cX5_bar 28 = .ok (.iload_n 2, 1) := by decide +kernel
theorem dX5_bar_29 : decode cX5_bar 29 = .ok (.ireturn, 1) := by decide +kernel
theorem dX5_of_0 : decode cX5_of 0 = .ok (.aload_n 0, 1) := by decide +kernel
theorem dX5_of_1 : decode cX5_of 1 = .ok (.iload_n 1, 1) := by decide +kernel
theorem dX5_of_2 : decode cX5_of 2 = .ok (.invokevirtual 78, 3) := by decide +kernel
theorem dX5_of_5 : decode cX5_of 5 = .ok (.ifCond .ne 5, 3) := by decide +kernel
theorem dX5_of_8 : decode cX5_of 8 = .ok (.iconst (-1), 1) := by decide +kernel
theorem dX5_of_9 : decode cX5_of 9 = .ok (.ireturn, 1) := by decide +kernel
theorem dX5_of_10 : decode cX5_of 10 = .ok (.iload_n 2, 1) := by decide +kernel
theorem dX5_of_11 : decode cX5_of 11 = .ok (.tableswitch 130 0 6 #[41, 51, 61, 71, 81, 101, 121], 41) := by decide +kernel
theorem dX5_of_52 : decode cX5_of 52 = .ok (.aload_n 0, 1) := by decide +kernel
theorem dX5_of_53 : decode cX5_of 53 = .ok (.getfield 10, 3) := by decide +kernel
theorem dX5_of_56 : decode cX5_of 56 = .ok (.getfield 82, 3) := by decide +kernel
theorem dX5_of_59 : decode cX5_of 59 = .ok (.iload_n 1, 1) := by decide +kernel
theorem dX5_of_60 : decode cX5_of 60 = .ok (.iaload, 1) := by decide +kernel
theorem dX5_of_61 : decode cX5_of 61 = .ok (.ireturn, 1) := by decide +kernel
theorem dX5_of_62 : decode cX5_of 62 = .ok (.aload_n 0, 1) := by decide +kernel
theorem dX5_of_63 : decode cX5_of 63 = .ok (.getfield 10, 3) := by decide +kernel
theorem dX5_of_66 : decode cX5_of 66 = .ok (.getfield 86, 3) := by decide +kernel
theorem dX5_of_69 : decode cX5_of 69 = .ok (.iload_n 1, 1) := by decide +kernel
theorem dX5_of_70 : decode cX5_of 70 = .ok (.iaload, 1) := by decide +kernel
theorem dX5_of_71 : decode cX5_of 71 = .ok (.ireturn, 1) := by decide +kernel
theorem dX5_of_72 : decode cX5_of 72 = .ok (.aload_n 0, 1) := by decide +kernel
theorem dX5_of_73 : decode cX5_of 73 = .ok (.getfield 10, 3) := by decide +kernel
theorem dX5_of_76 : decode cX5_of 76 = .ok (.getfield 89, 3) := by decide +kernel
theorem dX5_of_79 : decode cX5_of 79 = .ok (.iload_n 1, 1) := by decide +kernel
theorem dX5_of_80 : decode cX5_of 80 = .ok (.iaload, 1) := by decide +kernel
theorem dX5_of_81 : decode cX5_of 81 = .ok (.ireturn, 1) := by decide +kernel
theorem dX5_of_82 : decode cX5_of 82 = .ok (.aload_n 0, 1) := by decide +kernel
theorem dX5_of_83 : decode cX5_of 83 = .ok (.getfield 10, 3) := by decide +kernel
theorem dX5_of_86 : decode cX5_of 86 = .ok (.getfield 92, 3) := by decide +kernel
theorem dX5_of_89 : decode cX5_of 89 = .ok (.iload_n 1, 1) := by decide +kernel
theorem dX5_of_90 : decode cX5_of 90 = .ok (.iaload, 1) := by decide +kernel
theorem dX5_of_91 : decode cX5_of 91 = .ok (.ireturn, 1) := by decide +kernel
theorem dX5_of_92 : decode cX5_of 92 = .ok (.aload_n 0, 1) := by decide +kernel
theorem dX5_of_93 : decode cX5_of 93 = .ok (.getfield 10, 3) := by decide +kernel
theorem dX5_of_96 : decode cX5_of 96 = .ok (.getfield 95, 3) := by decide +kernel
theorem dX5_of_99 : decode cX5_of 99 = .ok (.iload_n 1, 1) := by decide +kernel
theorem dX5_of_100 : decode cX5_of 100 = .ok (.invokestatic 98, 3) := by decide +kernel
theorem dX5_of_103 : decode cX5_of 103 = .ok (.ifCond .eq 7, 3) := by decide +kernel
theorem dX5_of_106 : decode cX5_of 106 = .ok (.iconst 1, 1) := by decide +kernel
theorem dX5_of_107 : decode cX5_of 107 = .ok (.goto 4, 3) := by decide +kernel
theorem dX5_of_110 : decode cX5_of 110 = .ok (.iconst 0, 1) := by decide +kernel
theorem dX5_of_111 : decode cX5_of 111 = .ok (.ireturn, 1) := by decide +kernel
theorem dX5_of_112 : decode cX5_of 112 = .ok (.aload_n 0, 1) := by decide +kernel
theorem dX5_of_113 : decode cX5_of 113 = .ok (.getfield 10, 3) := by decide +kernel
theorem dX5_of_116 : decode cX5_of 116 = .ok (.getfield 102, 3) := by decide +kernel
theorem dX5_of_119 : decode cX5_of 119 = .ok (.iload_n 1, 1) := by decide +kernel
theorem dX5_of_120 : decode cX5_of 120 = .ok (.invokestatic 98, 3) := by decide +kernel
theorem dX5_of_123 : decode cX5_of 123 = .ok (.ifCond .eq 7, 3) := by decide +kernel
theorem dX5_of_126 : decode cX5_of 126 = .ok (.iconst 1, 1) := by decide +kernel
theorem dX5_of_127 : decode cX5_of 127 = .ok (.goto 4, 3) := by decide +kernel
theorem dX5_of_130 : decode cX5_of 130 = .ok (.iconst 0, 1) := by decide +kernel
theorem dX5_of_131 : decode cX5_of 131 = .ok (.ireturn, 1) := by decide +kernel
theorem dX5_of_132 : decode cX5_of 132 = .ok (.aload_n 0, 1) := by decide +kernel
theorem dX5_of_133 : decode cX5_of 133 = .ok (.getfield 10, 3) := by decide +kernel
theorem dX5_of_136 : decode cX5_of 136 = .ok (.iload_n 1, 1) := by decide +kernel
theorem dX5_of_137 : decode cX5_of 137 = .ok (.invokevirtual 105, 3) := by decide +kernel
theorem dX5_of_140 : decode cX5_of 140 = .ok (.ireturn, 1) := by decide +kernel
theorem dX5_of_141 : decode cX5_of 141 = .ok (.iconst (-1), 1) := by decide +kernel
theorem dX5_of_142 : decode cX5_of 142 = .ok (.ireturn, 1) := by decide +kernel
theorem dX5_at_0 : decode cX5_at 0 = .ok (.aload_n 0, 1) := by decide +kernel
theorem dX5_at_1 : decode cX5_at 1 = .ok (.iload_n 1, 1) := by decide +kernel
theorem dX5_at_2 : decode cX5_at 2 = .ok (.invokevirtual 109, 3) := by decide +kernel
theorem dX5_at_5 : decode cX5_at 5 = .ok (.ifCond .ne 5, 3) := by decide +kernel
theorem dX5_at_8 : decode cX5_at 8 = .ok (.iconst (-1), 1) := by decide +kernel
theorem dX5_at_9 : decode cX5_at 9 = .ok (.ireturn, 1) := by decide +kernel
theorem dX5_at_10 : decode cX5_at 10 = .ok (.iload_n 2, 1) := by decide +kernel
theorem dX5_at_11 : decode cX5_at 11 = .ok (.tableswitch 54 0 2 #[25, 35, 45], 25) := by decide +kernel
theorem dX5_at_36 : decode cX5_at 36 = .ok (.aload_n 0, 1) := by decide +kernel
theorem dX5_at_37 : decode cX5_at 37 = .ok (.getfield 10, 3) := by decide +kernel
theorem dX5_at_40 : decode cX5_at 40 = .ok (.getfield 112, 3) := by decide +kernel
theorem dX5_at_43 : decode cX5_at 43 = .ok (.iload_n 1, 1) := by decide +kernel
theorem dX5_at_44 : decode cX5_at 44 = .ok (.iaload, 1) := by decide +kernel
theorem dX5_at_45 : decode cX5_at 45 = .ok (.ireturn, 1) := by decide +kernel
theorem dX5_at_46 : decode cX5_at 46 = .ok (.aload_n 0, 1) := by decide +kernel
theorem dX5_at_47 : decode cX5_at 47 = .ok (.getfield 10, 3) := by decide +kernel
theorem dX5_at_50 : decode cX5_at 50 = .ok (.getfield 115, 3) := by decide +kernel
theorem dX5_at_53 : decode cX5_at 53 = .ok (.iload_n 1, 1) := by decide +kernel
theorem dX5_at_54 : decode cX5_at 54 = .ok (.iaload, 1) := by decide +kernel
theorem dX5_at_55 : decode cX5_at 55 = .ok (.ireturn, 1) := by decide +kernel
theorem dX5_at_56 : decode cX5_at 56 = .ok (.aload_n 0, 1) := by decide +kernel
theorem dX5_at_57 : decode cX5_at 57 = .ok (.getfield 10, 3) := by decide +kernel
theorem dX5_at_60 : decode cX5_at 60 = .ok (.iload_n 1, 1) := by decide +kernel
theorem dX5_at_61 : decode cX5_at 61 = .ok (.invokevirtual 118, 3) := by decide +kernel
theorem dX5_at_64 : decode cX5_at 64 = .ok (.ireturn, 1) := by decide +kernel
theorem dX5_at_65 : decode cX5_at 65 = .ok (.iconst (-1), 1) := by decide +kernel
theorem dX5_at_66 : decode cX5_at 66 = .ok (.ireturn, 1) := by decide +kernel
theorem dX5_type_0 : decode cX5_type 0 = .ok (.iload_n 1, 1) := by decide +kernel
theorem dX5_type_1 : decode cX5_type 1 = .ok (.bipush 32, 2) := by decide +kernel
theorem dX5_type_3 : decode cX5_type 3 = .ok (.bipush 126, 2) := by decide +kernel
theorem dX5_type_5 : decode cX5_type 5 = .ok (.invokestatic 53, 3) := by decide +kernel
theorem dX5_type_8 : decode cX5_type 8 = .ok (.ifCond .ne 5, 3) := by decide +kernel
theorem dX5_type_11 : decode cX5_type 11 = .ok (.iconst (-1), 1) := by decide +kernel
theorem dX5_type_12 : decode cX5_type 12 = .ok (.ireturn, 1) := by decide +kernel
theorem dX5_type_13 : decode cX5_type 13 = .ok (.aload_n 0, 1) := by decide +kernel
theorem dX5_type_14 : decode cX5_type 14 = .ok (.getfield 39, 3) := by decide +kernel
theorem dX5_type_17 : decode cX5_type 17 = .ok (.getfield 121, 3) := by decide +kernel
theorem dX5_type_20 : decode cX5_type 20 = .ok (.bipush 80, 2) := by decide +kernel
theorem dX5_type_22 : decode cX5_type 22 = .ok (.if_icmp .lt 6, 3) := by decide +kernel
theorem dX5_type_25 : decode cX5_type 25 = .ok (.bipush (-3), 2) := by decide +kernel
theorem dX5_type_27 : decode cX5_type 27 = .ok (.ireturn, 1) := by decide +kernel
theorem dX5_type_28 : decode cX5_type 28 = .ok (.aload_n 0, 1) := by decide +kernel
theorem dX5_type_29 : decode cX5_type 29 = .ok (.getfield 39, 3) := by decide +kernel
theorem dX5_type_32 : decode cX5_type 32 = .ok (.iload_n 1, 1) := by decide +kernel
theorem dX5_type_33 : decode cX5_type 33 = .ok (.invokevirtual 124, 3) := by decide +kernel
theorem dX5_type_36 : decode cX5_type 36 = .ok (.ireturn, 1) := by decide +kernel
theorem dX5_town_0 : decode cX5_town 0 = .ok (.aload_n 0, 1) := by decide +kernel
theorem dX5_town_1 : decode cX5_town 1 = .ok (.getfield 39, 3) := by decide +kernel
theorem dX5_town_4 : decode cX5_town 4 = .ok (.aload_n 0, 1) := by decide +kernel
theorem dX5_town_5 : decode cX5_town 5 = .ok (.getfield 43, 3) := by decide +kernel
theorem dX5_town_8 : decode cX5_town 8 = .ok (.invokevirtual 127, 3) := by decide +kernel
theorem dX5_town_11 : decode cX5_town 11 = .ok (.istore_n 1, 1) := by decide +kernel
theorem dX5_town_12 : decode cX5_town 12 = .ok (.bipush (-20), 2) := by decide +kernel
theorem dX5_town_14 : decode cX5_town 14 = .ok (.aload_n 0, 1) := by decide +kernel
theorem dX5_town_15 : decode cX5_town 15 = .ok (.getfield 39, 3) := by decide +kernel
theorem dX5_town_18 : decode cX5_town 18 = .ok (.getfield 131, 3) := by decide +kernel
theorem dX5_town_21 : decode cX5_town 21 = .ok (.isub, 1) := by decide +kernel
theorem dX5_town_22 : decode cX5_town 22 = .ok (.istore_n 2, 1) := by decide +kernel
theorem dX5_town_23 : decode cX5_town 23 = .ok (.aload_n 0, 1) := by decide +kernel
theorem dX5_town_24 : decode cX5_town 24 = .ok (.getfield 39, 3) := by decide +kernel
theorem dX5_town_27 : decode cX5_town 27 = .ok (.invokevirtual 134, 3) := by decide +kernel
theorem dX5_town_30 : decode cX5_town 30 = .ok (.iload_n 1, 1) := by decide +kernel
theorem dX5_town_31 : decode cX5_town 31 = .ok (.ifCond .ne 5, 3) := by decide +kernel
theorem dX5_town_34 : decode cX5_town 34 = .ok (.iload_n 2, 1) := by decide +kernel
theorem dX5_town_35 : decode cX5_town 35 = .ok (.ireturn, 1) := by decide +kernel
theorem dX5_town_36 : decode cX5_town 36 = .ok (.aload_n 0, 1) := by decide +kernel
theorem dX5_town_37 : decode cX5_town 37 = .ok (.getfield 43, 3) := by decide +kernel
theorem dX5_town_40 : decode cX5_town 40 = .ok (.aload_n 0, 1) := by decide +kernel
theorem dX5_town_41 : decode cX5_town 41 = .ok (.getfield 10, 3) := by decide +kernel
theorem dX5_town_44 : decode cX5_town 44 = .ok (.getfield 137, 3) := by decide +kernel
theorem dX5_town_47 : decode cX5_town 47 = .ok (.putfield 137, 3) := by decide +kernel
theorem dX5_town_50 : decode cX5_town 50 = .ok (.aload_n 0, 1) := by decide +kernel
theorem dX5_town_51 : decode cX5_town 51 = .ok (.getfield 10, 3) := by decide +kernel
theorem dX5_town_54 : decode cX5_town 54 = .ok (.aload_n 0, 1) := by decide +kernel
theorem dX5_town_55 : decode cX5_town 55 = .ok (.getfield 43, 3) := by decide +kernel
theorem dX5_town_58 : decode cX5_town 58 = .ok (.invokevirtual 140, 3) := by decide +kernel
theorem dX5_town_61 : decode cX5_town 61 = .ok (.aload_n 0, 1) := by decide +kernel
theorem dX5_town_62 : decode cX5_town 62 = .ok (.getfield 19, 3) := by decide +kernel
theorem dX5_town_65 : decode cX5_town 65 = .ok (.invokevirtual 61, 3) := by decide +kernel
theorem dX5_town_68 : decode cX5_town 68 = .ok (.aload_n 0, 1) := by decide +kernel
theorem dX5_town_69 : decode cX5_town 69 = .ok (.getfield 10, 3) := by decide +kernel
theorem dX5_town_72 : decode cX5_town 72 = .ok (.getfield 57, 3) := by decide +kernel
theorem dX5_town_75 : decode cX5_town 75 = .ok (.ireturn, 1) := by decide +kernel
theorem dX5_count_0 : decode cX5_count 0 = .ok (.iload_n 1, 1) := by decide +kernel
theorem dX5_count_1 : decode cX5_count 1 = .ok (.tableswitch 111 0 7 #[47, 55, 63, 71, 79, 87, 95, 103], 47) := by decide +kernel
theorem dX5_count_48 : decode cX5_count 48 = .ok (.aload_n 0, 1) := by decide +kernel
theorem dX5_count_49 : decode cX5_count 49 = .ok (.getfield 10, 3) := by decide +kernel
theorem dX5_count_52 : decode cX5_count 52 = .ok (.getfield 57, 3) := by decide +kernel
theorem dX5_count_55 : decode cX5_count 55 = .ok (.ireturn, 1) := by decide +kernel
theorem dX5_count_56 : decode cX5_count 56 = .ok (.aload_n 0, 1) := by decide +kernel
theorem dX5_count_57 : decode cX5_count 57 = .ok (.getfield 10, 3) := by decide +kernel
theorem dX5_count_60 : decode cX5_count 60 = .ok (.getfield 68, 3) := by decide +kernel
theorem dX5_count_63 : decode cX5_count 63 = .ok (.ireturn, 1) := by decide +kernel
theorem dX5_count_64 : decode cX5_count 64 = .ok (.aload_n 0, 1) := by decide +kernel
theorem dX5_count_65 : decode cX5_count 65 = .ok (.getfield 10, 3) := by decide +kernel
theorem dX5_count_68 : decode cX5_count 68 = .ok (.getfield 144, 3) := by decide +kernel
theorem dX5_count_71 : decode cX5_count 71 = .ok (.ireturn, 1) := by decide +kernel
theorem dX5_count_72 : decode cX5_count 72 = .ok (.aload_n 0, 1) := by decide +kernel
theorem dX5_count_73 : decode cX5_count 73 = .ok (.getfield 10, 3) := by decide +kernel
theorem dX5_count_76 : decode cX5_count 76 = .ok (.getfield 75, 3) := by decide +kernel
theorem dX5_count_79 : decode cX5_count 79 = .ok (.ireturn, 1) := by decide +kernel
theorem dX5_count_80 : decode cX5_count 80 = .ok (.aload_n 0, 1) := by decide +kernel
theorem dX5_count_81 : decode cX5_count 81 = .ok (.getfield 10, 3) := by decide +kernel
theorem dX5_count_84 : decode cX5_count 84 = .ok (.getfield 102, 3) := by decide +kernel
theorem dX5_count_87 : decode cX5_count 87 = .ok (.ireturn, 1) := by decide +kernel
theorem dX5_count_88 : decode cX5_count 88 = .ok (.aload_n 0, 1) := by decide +kernel
theorem dX5_count_89 : decode cX5_count 89 = .ok (.getfield 10, 3) := by decide +kernel
theorem dX5_count_92 : decode cX5_count 92 = .ok (.getfield 95, 3) := by decide +kernel
theorem dX5_count_95 : decode cX5_count 95 = .ok (.ireturn, 1) := by decide +kernel
theorem dX5_count_96 : decode cX5_count 96 = .ok (.aload_n 0, 1) := by decide +kernel
theorem dX5_count_97 : decode cX5_count 97 = .ok (.getfield 10, 3) := by decide +kernel
theorem dX5_count_100 : decode cX5_count 100 = .ok (.invokevirtual 147, 3) := by decide +kernel
theorem dX5_count_103 : decode cX5_count 103 = .ok (.ireturn, 1) := by decide +kernel
theorem dX5_count_104 : decode cX5_count 104 = .ok (.aload_n 0, 1) := by decide +kernel
theorem dX5_count_105 : decode cX5_count 105 = .ok (.getfield 19, 3) := by decide +kernel
theorem dX5_count_108 : decode cX5_count 108 = .ok (.getfield 151, 3) := by decide +kernel
theorem dX5_count_111 : decode cX5_count 111 = .ok (.ireturn, 1) := by decide +kernel
theorem dX5_count_112 : decode cX5_count 112 = .ok (.iconst (-1), 1) := by decide +kernel
theorem dX5_count_113 : decode cX5_count 113 = .ok (.ireturn, 1) := by decide +kernel
theorem dX5_nights_0 : decode cX5_nights 0 = .ok (.aload_n 0, 1) := by decide +kernel
theorem dX5_nights_1 : decode cX5_nights 1 = .ok (.iload_n 1, 1) := by decide +kernel
theorem dX5_nights_2 : decode cX5_nights 2 = .ok (.iconst 0, 1) := by decide +kernel
theorem dX5_nights_3 : decode cX5_nights 3 = .ok (.invokevirtual 154, 3) := by decide +kernel
theorem dX5_nights_6 : decode cX5_nights 6 = .ok (.ireturn, 1) := by decide +kernel
theorem dX5_show_0 : decode cX5_show 0 = .ok (.aload_n 0, 1) := by decide +kernel
theorem dX5_show_1 : decode cX5_show 1 = .ok (.iload_n 1, 1) := by decide +kernel
theorem dX5_show_2 : decode cX5_show 2 = .ok (.invokevirtual 78, 3) := by decide +kernel
theorem dX5_show_5 : decode cX5_show 5 = .ok (.ifCond .eq 12, 3) := by decide +kernel
theorem dX5_show_8 : decode cX5_show 8 = .ok (.iload_n 2, 1) := by decide +kernel
theorem dX5_show_9 : decode cX5_show 9 = .ok (.iconst 0, 1) := by decide +kernel
theorem dX5_show_10 : decode cX5_show 10 = .ok (.iconst 1, 1) := by decide +kernel
theorem dX5_show_11 : decode cX5_show 11 = .ok (.invokestatic 53, 3) := by decide +kernel
theorem dX5_show_14 : decode cX5_show 14 = .ok (.ifCond .ne 5, 3) := by decide +kernel
theorem dX5_show_17 : decode cX5_show 17 = .ok (.iconst (-1), 1) := by decide +kernel
theorem dX5_show_18 : decode cX5_show 18 = .ok (.ireturn, 1) := by decide +kernel
theorem dX5_show_19 : decode cX5_show 19 = .ok (.aload_n 0, 1) := by decide +kernel
theorem dX5_show_20 : decode cX5_show 20 = .ok (.getfield 10, 3) := by decide +kernel
theorem dX5_show_23 : decode cX5_show 23 = .ok (.getfield 102, 3) := by decide +kernel
theorem dX5_show_26 : decode cX5_show 26 = .ok (.iload_n 1, 1) := by decide +kernel
theorem dX5_show_27 : decode cX5_show 27 = .ok (.invokestatic 98, 3) := by decide +kernel
theorem dX5_show_30 : decode cX5_show 30 = .ok (.ifCond .ne 27, 3) := by decide +kernel
theorem dX5_show_33 : decode cX5_show 33 = .ok (.aload_n 0, 1) := by decide +kernel
theorem dX5_show_34 : decode cX5_show 34 = .ok (.getfield 10, 3) := by decide +kernel
theorem dX5_show_37 : decode cX5_show 37 = .ok (.getfield 95, 3) := by decide +kernel
theorem dX5_show_40 : decode cX5_show 40 = .ok (.iload_n 1, 1) := by decide +kernel
theorem dX5_show_41 : decode cX5_show 41 = .ok (.invokestatic 98, 3) := by decide +kernel
theorem dX5_show_44 : decode cX5_show 44 = .ok (.iload_n 2, 1) := by decide +kernel
theorem dX5_show_45 : decode cX5_show 45 = .ok (.iconst 1, 1) := by decide +kernel
theorem dX5_show_46 : decode cX5_show 46 = .ok (.if_icmp .ne 7, 3) := by decide +kernel
theorem dX5_show_49 : decode cX5_show 49 = .ok (.iconst 1, 1) := by decide +kernel
theorem dX5_show_50 : decode cX5_show 50 = .ok (.goto 4, 3) := by decide +kernel
theorem dX5_show_53 : decode cX5_show 53 = .ok (.iconst 0, 1) := by decide +kernel
theorem dX5_show_54 : decode cX5_show 54 = .ok (.if_icmp .ne 6, 3) := by decide +kernel
theorem dX5_show_57 : decode cX5_show 57 = .ok (.bipush (-2), 2) := by decide +kernel
theorem dX5_show_59 : decode cX5_show 59 = .ok (.ireturn, 1) := by decide +kernel
theorem dX5_show_60 : decode cX5_show 60 = .ok (.aload_n 0, 1) := by decide +kernel
theorem dX5_show_61 : decode cX5_show 61 = .ok (.getfield 19, 3) := by decide +kernel
theorem dX5_show_64 : decode cX5_show 64 = .ok (.aload_n 0, 1) := by decide +kernel
theorem dX5_show_65 : decode cX5_show 65 = .ok (.getfield 10, 3) := by decide +kernel
theorem dX5_show_68 : decode cX5_show 68 = .ok (.invokevirtual 158, 3) := by decide +kernel
theorem dX5_show_71 : decode cX5_show 71 = .ok (.aload_n 0, 1) := by decide +kernel
theorem dX5_show_72 : decode cX5_show 72 = .ok (.getfield 10, 3) := by decide +kernel
theorem dX5_show_75 : decode cX5_show 75 = .ok (.iload_n 1, 1) := by decide +kernel
theorem dX5_show_76 : decode cX5_show 76 = .ok (.iload_n 2, 1) := by decide +kernel
theorem dX5_show_77 : decode cX5_show 77 = .ok (.iconst 1, 1) := by decide +kernel
theorem dX5_show_78 : decode cX5_show 78 = .ok (.if_icmp .ne 7, 3) := by decide +kernel
theorem dX5_show_81 : decode cX5_show 81 = .ok (.iconst 1, 1) := by decide +kernel
theorem dX5_show_82 : decode cX5_show 82 = .ok (.goto 4, 3) := by decide +kernel
theorem dX5_show_85 : decode cX5_show 85 = .ok (.iconst 0, 1) := by decide +kernel
theorem dX5_show_86 : decode cX5_show 86 = .ok (.invokevirtual 161, 3) := by decide +kernel
theorem dX5_show_89 : decode cX5_show 89 = .ok (.aload_n 0, 1) := by decide +kernel
theorem dX5_show_90 : decode cX5_show 90 = .ok (.getfield 10, 3) := by decide +kernel
theorem dX5_show_93 : decode cX5_show 93 = .ok (.getfield 95, 3) := by decide +kernel
theorem dX5_show_96 : decode cX5_show 96 = .ok (.ireturn, 1) := by decide +kernel
theorem dX5_teach_0 : decode cX5_teach 0 = .ok (.aload_n 0, 1) := by decide +kernel
theorem dX5_teach_1 : decode cX5_teach 1 = .ok (.iload_n 1, 1) := by decide +kernel
theorem dX5_teach_2 : decode cX5_teach 2 = .ok (.invokevirtual 78, 3) := by decide +kernel
theorem dX5_teach_5 : decode cX5_teach 5 = .ok (.ifCond .eq 13, 3) := by decide +kernel
theorem dX5_teach_8 : decode cX5_teach 8 = .ok (.iload_n 2, 1) := by decide +kernel
theorem dX5_teach_9 : decode cX5_teach 9 = .ok (.iconst 0, 1) := by decide +kernel
theorem dX5_teach_10 : decode cX5_teach 10 = .ok (.bipush 9, 2) := by decide +kernel
theorem dX5_teach_12 : decode cX5_teach 12 = .ok (.invokestatic 53, 3) := by decide +kernel
theorem dX5_teach_15 : decode cX5_teach 15 = .ok (.ifCond .ne 5, 3) := by decide +kernel
theorem dX5_teach_18 : decode cX5_teach 18 = .ok (.iconst (-1), 1) := by decide +kernel
theorem dX5_teach_19 : decode cX5_teach 19 = .ok (.ireturn, 1) := by decide +kernel
theorem dX5_teach_20 : decode cX5_teach 20 = .ok (.aload_n 0, 1) := by decide +kernel
theorem dX5_teach_21 : decode cX5_teach 21 = .ok (.getfield 10, 3) := by decide +kernel
theorem dX5_teach_24 : decode cX5_teach 24 = .ok (.getfield 92, 3) := by decide +kernel
theorem dX5_teach_27 : decode cX5_teach 27 = .ok (.iload_n 1, 1) := by decide +kernel
theorem dX5_teach_28 : decode cX5_teach 28 = .ok (.iaload, 1) := by decide +kernel
theorem dX5_teach_29 : decode cX5_teach 29 = .ok (.istore_n 3, 1) := by decide +kernel
theorem dX5_teach_30 : decode cX5_teach 30 = .ok (.iload_n 3, 1) := by decide +kernel
theorem dX5_teach_31 : decode cX5_teach 31 = .ok (.iload_n 2, 1) := by decide +kernel
theorem dX5_teach_32 : decode cX5_teach 32 = .ok (.if_icmp .ne 6, 3) := by decide +kernel
theorem dX5_teach_35 : decode cX5_teach 35 = .ok (.bipush (-2), 2) := by decide +kernel
theorem dX5_teach_37 : decode cX5_teach 37 = .ok (.ireturn, 1) := by decide +kernel
theorem dX5_teach_38 : decode cX5_teach 38 = .ok (.aload_n 0, 1) := by decide +kernel
theorem dX5_teach_39 : decode cX5_teach 39 = .ok (.getfield 19, 3) := by decide +kernel
theorem dX5_teach_42 : decode cX5_teach 42 = .ok (.aload_n 0, 1) := by decide +kernel
theorem dX5_teach_43 : decode cX5_teach 43 = .ok (.getfield 10, 3) := by decide +kernel
theorem dX5_teach_46 : decode cX5_teach 46 = .ok (.invokevirtual 158, 3) := by decide +kernel
theorem dX5_teach_49 : decode cX5_teach 49 = .ok (.aload_n 0, 1) := by decide +kernel
theorem dX5_teach_50 : decode cX5_teach 50 = .ok (.getfield 10, 3) := by decide +kernel
theorem dX5_teach_53 : decode cX5_teach 53 = .ok (.getfield 92, 3) := by decide +kernel
theorem dX5_teach_56 : decode cX5_teach 56 = .ok (.iload_n 1, 1) := by decide +kernel
theorem dX5_teach_57 : decode cX5_teach 57 = .ok (.iload_n 2, 1) := by decide +kernel
theorem dX5_teach_58 : decode cX5_teach 58 = .ok (.iastore, 1) := by decide +kernel
theorem dX5_teach_59 : decode cX5_teach 59 = .ok (.iload_n 3, 1) := by decide +kernel
theorem dX5_teach_60 : decode cX5_teach 60 = .ok (.ireturn, 1) := by decide +kernel
theorem dX5_drift_0 : decode cX5_drift 0 = .ok (.aload_n 0, 1) := by decide +kernel
theorem dX5_drift_1 : decode cX5_drift 1 = .ok (.iload_n 1, 1) := by decide +kernel
theorem dX5_drift_2 : decode cX5_drift 2 = .ok (.iconst 1, 1) := by decide +kernel
theorem dX5_drift_3 : decode cX5_drift 3 = .ok (.invokevirtual 154, 3) := by decide +kernel
theorem dX5_drift_6 : decode cX5_drift 6 = .ok (.ireturn, 1) := by decide +kernel
theorem dX5_undo_0 : decode cX5_undo 0 = .ok (.aload_n 0, 1) := by decide +kernel
theorem dX5_undo_1 : decode cX5_undo 1 = .ok (.getfield 19, 3) := by decide +kernel
theorem dX5_undo_4 : decode cX5_undo 4 = .ok (.getfield 151, 3) := by decide +kernel
theorem dX5_undo_7 : decode cX5_undo 7 = .ok (.ifCond .ne 6, 3) := by decide +kernel
theorem dX5_undo_10 : decode cX5_undo 10 = .ok (.bipush (-4), 2) := by decide +kernel
theorem dX5_undo_12 : decode cX5_undo 12 = .ok (.ireturn, 1) := by decide +kernel
theorem dX5_undo_13 : decode cX5_undo 13 = .ok (.aload_n 0, 1) := by decide +kernel
theorem dX5_undo_14 : decode cX5_undo 14 = .ok (.getfield 19, 3) := by decide +kernel
theorem dX5_undo_17 : decode cX5_undo 17 = .ok (.aload_n 0, 1) := by decide +kernel
theorem dX5_undo_18 : decode cX5_undo 18 = .ok (.getfield 10, 3) := by decide +kernel
theorem dX5_undo_21 : decode cX5_undo 21 = .ok (.invokevirtual 165, 3) := by decide +kernel
theorem dX5_undo_24 : decode cX5_undo 24 = .ok (.aload_n 0, 1) := by decide +kernel
theorem dX5_undo_25 : decode cX5_undo 25 = .ok (.getfield 19, 3) := by decide +kernel
theorem dX5_undo_28 : decode cX5_undo 28 = .ok (.getfield 151, 3) := by decide +kernel
theorem dX5_undo_31 : decode cX5_undo 31 = .ok (.ireturn, 1) := by decide +kernel
theorem dX5_seed_0 : decode cX5_seed 0 = .ok (.iload_n 1, 1) := by decide +kernel
theorem dX5_seed_1 : decode cX5_seed 1 = .ok (.ifCond .ge 5, 3) := by decide +kernel
theorem dX5_seed_4 : decode cX5_seed 4 = .ok (.iconst (-1), 1) := by decide +kernel
theorem dX5_seed_5 : decode cX5_seed 5 = .ok (.ireturn, 1) := by decide +kernel
theorem dX5_seed_6 : decode cX5_seed 6 = .ok (.aload_n 0, 1) := by decide +kernel
theorem dX5_seed_7 : decode cX5_seed 7 = .ok (.getfield 10, 3) := by decide +kernel
theorem dX5_seed_10 : decode cX5_seed 10 = .ok (.getfield 137, 3) := by decide +kernel
theorem dX5_seed_13 : decode cX5_seed 13 = .ok (.istore_n 2, 1) := by decide +kernel
theorem dX5_seed_14 : decode cX5_seed 14 = .ok (.aload_n 0, 1) := by decide +kernel
theorem dX5_seed_15 : decode cX5_seed 15 = .ok (.getfield 10, 3) := by decide +kernel
theorem dX5_seed_18 : decode cX5_seed 18 = .ok (.iload_n 1, 1) := by decide +kernel
theorem dX5_seed_19 : decode cX5_seed 19 = .ok (.putfield 137, 3) := by decide +kernel
theorem dX5_seed_22 : decode cX5_seed 22 = .ok (.iload_n 2, 1) := by decide +kernel
theorem dX5_seed_23 : decode cX5_seed 23 = .ok (.ireturn, 1) := by decide +kernel
theorem dX5_ahead_0 : decode cX5_ahead 0 = .ok (.aload_n 0, 1) := by decide +kernel
theorem dX5_ahead_1 : decode cX5_ahead 1 = .ok (.iload_n 1, 1) := by decide +kernel
theorem dX5_ahead_2 : decode cX5_ahead 2 = .ok (.invokevirtual 78, 3) := by decide +kernel
theorem dX5_ahead_5 : decode cX5_ahead 5 = .ok (.ifCond .eq 13, 3) := by decide +kernel
theorem dX5_ahead_8 : decode cX5_ahead 8 = .ok (.iload_n 2, 1) := by decide +kernel
theorem dX5_ahead_9 : decode cX5_ahead 9 = .ok (.iconst 0, 1) := by decide +kernel
theorem dX5_ahead_10 : decode cX5_ahead 10 = .ok (.bipush 99, 2) := by decide +kernel
theorem dX5_ahead_12 : decode cX5_ahead 12 = .ok (.invokestatic 53, 3) := by decide +kernel
theorem dX5_ahead_15 : decode cX5_ahead 15 = .ok (.ifCond .ne 5, 3) := by decide +kernel
theorem dX5_ahead_18 : decode cX5_ahead 18 = .ok (.iconst (-1), 1) := by decide +kernel
theorem dX5_ahead_19 : decode cX5_ahead 19 = .ok (.ireturn, 1) := by decide +kernel
theorem dX5_ahead_20 : decode cX5_ahead 20 = .ok (.aload_n 0, 1) := by decide +kernel
theorem dX5_ahead_21 : decode cX5_ahead 21 = .ok (.getfield 32, 3) := by decide +kernel
theorem dX5_ahead_24 : decode cX5_ahead 24 = .ok (.aload_n 0, 1) := by decide +kernel
theorem dX5_ahead_25 : decode cX5_ahead 25 = .ok (.getfield 10, 3) := by decide +kernel
theorem dX5_ahead_28 : decode cX5_ahead 28 = .ok (.iload_n 2, 1) := by decide +kernel
theorem dX5_ahead_29 : decode cX5_ahead 29 = .ok (.invokevirtual 168, 3) := by decide +kernel
theorem dX5_ahead_32 : decode cX5_ahead 32 = .ok (.getfield 89, 3) := by decide +kernel
theorem dX5_ahead_35 : decode cX5_ahead 35 = .ok (.iload_n 1, 1) := by decide +kernel
theorem dX5_ahead_36 : decode cX5_ahead 36 = .ok (.iaload, 1) := by decide +kernel
theorem dX5_ahead_37 : decode cX5_ahead 37 = .ok (.ireturn, 1) := by decide +kernel
theorem dX5_then_0 : decode cX5_then 0 = .ok (.iload_n 1, 1) := by decide +kernel
theorem dX5_then_1 : decode cX5_then 1 = .ok (.iconst 0, 1) := by decide +kernel
theorem dX5_then_2 : decode cX5_then 2 = .ok (.bipush 99, 2) := by decide +kernel
theorem dX5_then_4 : decode cX5_then 4 = .ok (.invokestatic 53, 3) := by decide +kernel
theorem dX5_then_7 : decode cX5_then 7 = .ok (.ifCond .ne 5, 3) := by decide +kernel
theorem dX5_then_10 : decode cX5_then 10 = .ok (.iconst (-1), 1) := by decide +kernel
theorem dX5_then_11 : decode cX5_then 11 = .ok (.ireturn, 1) := by decide +kernel
theorem dX5_then_12 : decode cX5_then 12 = .ok (.aload_n 0, 1) := by decide +kernel
theorem dX5_then_13 : decode cX5_then 13 = .ok (.getfield 32, 3) := by decide +kernel
theorem dX5_then_16 : decode cX5_then 16 = .ok (.aload_n 0, 1) := by decide +kernel
theorem dX5_then_17 : decode cX5_then 17 = .ok (.getfield 10, 3) := by decide +kernel
theorem dX5_then_20 : decode cX5_then 20 = .ok (.iload_n 1, 1) := by decide +kernel
theorem dX5_then_21 : decode cX5_then 21 = .ok (.invokevirtual 168, 3) := by decide +kernel
theorem dX5_then_24 : decode cX5_then 24 = .ok (.getfield 102, 3) := by decide +kernel
theorem dX5_then_27 : decode cX5_then 27 = .ok (.ireturn, 1) := by decide +kernel
theorem dX5_sworn_0 : decode cX5_sworn 0 = .ok (.aload_n 0, 1) := by decide +kernel
theorem dX5_sworn_1 : decode cX5_sworn 1 = .ok (.iload_n 1, 1) := by decide +kernel
theorem dX5_sworn_2 : decode cX5_sworn 2 = .ok (.invokevirtual 78, 3) := by decide +kernel
theorem dX5_sworn_5 : decode cX5_sworn 5 = .ok (.ifCond .ne 5, 3) := by decide +kernel
theorem dX5_sworn_8 : decode cX5_sworn 8 = .ok (.iconst (-1), 1) := by decide +kernel
theorem dX5_sworn_9 : decode cX5_sworn 9 = .ok (.ireturn, 1) := by decide +kernel
theorem dX5_sworn_10 : decode cX5_sworn 10 = .ok (.aload_n 0, 1) := by decide +kernel
theorem dX5_sworn_11 : decode cX5_sworn 11 = .ok (.getfield 32, 3) := by decide +kernel
theorem dX5_sworn_14 : decode cX5_sworn 14 = .ok (.aload_n 0, 1) := by decide +kernel
theorem dX5_sworn_15 : decode cX5_sworn 15 = .ok (.getfield 10, 3) := by decide +kernel
theorem dX5_sworn_18 : decode cX5_sworn 18 = .ok (.iload_n 1, 1) := by decide +kernel
theorem dX5_sworn_19 : decode cX5_sworn 19 = .ok (.invokevirtual 172, 3) := by decide +kernel
theorem dX5_sworn_22 : decode cX5_sworn 22 = .ok (.ireturn, 1) := by decide +kernel
theorem dX5_robs_0 : decode cX5_robs 0 = .ok (.aload_n 0, 1) := by decide +kernel
theorem dX5_robs_1 : decode cX5_robs 1 = .ok (.iload_n 1, 1) := by decide +kernel
theorem dX5_robs_2 : decode cX5_robs 2 = .ok (.invokevirtual 109, 3) := by decide +kernel
theorem dX5_robs_5 : decode cX5_robs 5 = .ok (.ifCond .ne 5, 3) := by decide +kernel
theorem dX5_robs_8 : decode cX5_robs 8 = .ok (.iconst (-1), 1) := by decide +kernel
theorem dX5_robs_9 : decode cX5_robs 9 = .ok (.ireturn, 1) := by decide +kernel
theorem dX5_robs_10 : decode cX5_robs 10 = .ok (.aload_n 0, 1) := by decide +kernel
theorem dX5_robs_11 : decode cX5_robs 11 = .ok (.getfield 10, 3) := by decide +kernel
theorem dX5_robs_14 : decode cX5_robs 14 = .ok (.iload_n 1, 1) := by decide +kernel
theorem dX5_robs_15 : decode cX5_robs 15 = .ok (.invokevirtual 176, 3) := by decide +kernel
theorem dX5_robs_18 : decode cX5_robs 18 = .ok (.ireturn, 1) := by decide +kernel
theorem dX5_hides_0 : decode cX5_hides 0 = .ok (.aload_n 0, 1) := by decide +kernel
theorem dX5_hides_1 : decode cX5_hides 1 = .ok (.iload_n 1, 1) := by decide +kernel
theorem dX5_hides_2 : decode cX5_hides 2 = .ok (.invokevirtual 78, 3) := by decide +kernel
theorem dX5_hides_5 : decode cX5_hides 5 = .ok (.ifCond .eq 12, 3) := by decide +kernel
theorem dX5_hides_8 : decode cX5_hides 8 = .ok (.iload_n 2, 1) := by decide +kernel
theorem dX5_hides_9 : decode cX5_hides 9 = .ok (.iconst 0, 1) := by decide +kernel
theorem dX5_hides_10 : decode cX5_hides 10 = .ok (.iconst 1, 1) := by decide +kernel
theorem dX5_hides_11 : decode cX5_hides 11 = .ok (.invokestatic 53, 3) := by decide +kernel
theorem dX5_hides_14 : decode cX5_hides 14 = .ok (.ifCond .ne 5, 3) := by decide +kernel
theorem dX5_hides_17 : decode cX5_hides 17 = .ok (.iconst (-1), 1) := by decide +kernel
theorem dX5_hides_18 : decode cX5_hides 18 = .ok (.ireturn, 1) := by decide +kernel
theorem dX5_hides_19 : decode cX5_hides 19 = .ok (.aload_n 0, 1) := by decide +kernel
theorem dX5_hides_20 : decode cX5_hides 20 = .ok (.getfield 32, 3) := by decide +kernel
theorem dX5_hides_23 : decode cX5_hides 23 = .ok (.aload_n 0, 1) := by decide +kernel
theorem dX5_hides_24 : decode cX5_hides 24 = .ok (.getfield 10, 3) := by decide +kernel
theorem dX5_hides_27 : decode cX5_hides 27 = .ok (.iload_n 1, 1) := by decide +kernel
theorem dX5_hides_28 : decode cX5_hides 28 = .ok (.iload_n 2, 1) := by decide +kernel
theorem dX5_hides_29 : decode cX5_hides 29 = .ok (.ifCond .ne 7, 3) := by decide +kernel
theorem dX5_hides_32 : decode cX5_hides 32 = .ok (.iconst 1, 1) := by decide +kernel
theorem dX5_hides_33 : decode cX5_hides 33 = .ok (.goto 4, 3) := by decide +kernel
theorem dX5_hides_36 : decode cX5_hides 36 = .ok (.iconst 0, 1) := by decide +kernel
theorem dX5_hides_37 : decode cX5_hides 37 = .ok (.invokevirtual 179, 3) := by decide +kernel
theorem dX5_hides_40 : decode cX5_hides 40 = .ok (.ireturn, 1) := by decide +kernel
theorem dX5_cover_0 : decode cX5_cover 0 = .ok (.aload_n 0, 1) := by decide +kernel
theorem dX5_cover_1 : decode cX5_cover 1 = .ok (.iload_n 1, 1) := by decide +kernel
theorem dX5_cover_2 : decode cX5_cover 2 = .ok (.invokevirtual 78, 3) := by decide +kernel
theorem dX5_cover_5 : decode cX5_cover 5 = .ok (.ifCond .eq 22, 3) := by decide +kernel
theorem dX5_cover_8 : decode cX5_cover 8 = .ok (.iload_n 2, 1) := by decide +kernel
theorem dX5_cover_9 : decode cX5_cover 9 = .ok (.iconst 1, 1) := by decide +kernel
theorem dX5_cover_10 : decode cX5_cover 10 = .ok (.bipush 40, 2) := by decide +kernel
theorem dX5_cover_12 : decode cX5_cover 12 = .ok (.invokestatic 53, 3) := by decide +kernel
theorem dX5_cover_15 : decode cX5_cover 15 = .ok (.ifCond .eq 12, 3) := by decide +kernel
theorem dX5_cover_18 : decode cX5_cover 18 = .ok (.iload_n 3, 1) := by decide +kernel
theorem dX5_cover_19 : decode cX5_cover 19 = .ok (.iconst 0, 1) := by decide +kernel
theorem dX5_cover_20 : decode cX5_cover 20 = .ok (.iconst 1, 1) := by decide +kernel
theorem dX5_cover_21 : decode cX5_cover 21 = .ok (.invokestatic 53, 3) := by decide +kernel
theorem dX5_cover_24 : decode cX5_cover 24 = .ok (.ifCond .ne 5, 3) := by decide +kernel
theorem dX5_cover_27 : decode cX5_cover 27 = .ok (.iconst (-1), 1) := by decide +kernel
theorem dX5_cover_28 : decode cX5_cover 28 = .ok (.ireturn, 1) := by decide +kernel
theorem dX5_cover_29 : decode cX5_cover 29 = .ok (.aload_n 0, 1) := by decide +kernel
theorem dX5_cover_30 : decode cX5_cover 30 = .ok (.getfield 32, 3) := by decide +kernel
theorem dX5_cover_33 : decode cX5_cover 33 = .ok (.aload_n 0, 1) := by decide +kernel
theorem dX5_cover_34 : decode cX5_cover 34 = .ok (.getfield 10, 3) := by decide +kernel
theorem dX5_cover_37 : decode cX5_cover 37 = .ok (.iload_n 1, 1) := by decide +kernel
theorem dX5_cover_38 : decode cX5_cover 38 = .ok (.iload_n 2, 1) := by decide +kernel
theorem dX5_cover_39 : decode cX5_cover 39 = .ok (.invokevirtual 183, 3) := by decide +kernel
theorem dX5_cover_42 : decode cX5_cover 42 = .ok (.istore 4, 2) := by decide +kernel
theorem dX5_cover_44 : decode cX5_cover 44 = .ok (.iload 4, 2) := by decide +kernel
theorem dX5_cover_46 : decode cX5_cover 46 = .ok (.ifCond .lt 8, 3) := by decide +kernel
theorem dX5_cover_49 : decode cX5_cover 49 = .ok (.iload_n 3, 1) := by decide +kernel
theorem dX5_cover_50 : decode cX5_cover 50 = .ok (.iconst 1, 1) := by decide +kernel
theorem dX5_cover_51 : decode cX5_cover 51 = .ok (.if_icmp .ne 8, 3) := by decide +kernel
theorem dX5_cover_54 : decode cX5_cover 54 = .ok (.iload 4, 2) := by decide +kernel
theorem dX5_cover_56 : decode cX5_cover 56 = .ok (.goto 8, 3) := by decide +kernel
theorem dX5_cover_59 : decode cX5_cover 59 = .ok (.iload 4, 2) := by decide +kernel
theorem dX5_cover_61 : decode cX5_cover 61 = .ok (.invokestatic 187, 3) := by decide +kernel
theorem dX5_cover_64 : decode cX5_cover 64 = .ok (.ireturn, 1) := by decide +kernel
theorem dX5_low_0 : decode cX5_low 0 = .ok (.iload_n 1, 1) := by decide +kernel
theorem dX5_low_1 : decode cX5_low 1 = .ok (.iconst 1, 1) := by decide +kernel
theorem dX5_low_2 : decode cX5_low 2 = .ok (.bipush 40, 2) := by decide +kernel
theorem dX5_low_4 : decode cX5_low 4 = .ok (.invokestatic 53, 3) := by decide +kernel
theorem dX5_low_7 : decode cX5_low 7 = .ok (.ifCond .ne 5, 3) := by decide +kernel
theorem dX5_low_10 : decode cX5_low 10 = .ok (.iconst (-1), 1) := by decide +kernel
theorem dX5_low_11 : decode cX5_low 11 = .ok (.ireturn, 1) := by decide +kernel
theorem dX5_low_12 : decode cX5_low 12 = .ok (.aload_n 0, 1) := by decide +kernel
theorem dX5_low_13 : decode cX5_low 13 = .ok (.getfield 32, 3) := by decide +kernel
theorem dX5_low_16 : decode cX5_low 16 = .ok (.aload_n 0, 1) := by decide +kernel
theorem dX5_low_17 : decode cX5_low 17 = .ok (.getfield 10, 3) := by decide +kernel
theorem dX5_low_20 : decode cX5_low 20 = .ok (.iload_n 1, 1) := by decide +kernel
theorem dX5_low_21 : decode cX5_low 21 = .ok (.invokevirtual 192, 3) := by decide +kernel
theorem dX5_low_24 : decode cX5_low 24 = .ok (.ireturn, 1) := by decide +kernel
theorem dX5_spare_0 : decode cX5_spare 0 = .ok (.iload_n 1, 1) := by decide +kernel
theorem dX5_spare_1 : decode cX5_spare 1 = .ok (.iconst 1, 1) := by decide +kernel
theorem dX5_spare_2 : decode cX5_spare 2 = .ok (.bipush 40, 2) := by decide +kernel
theorem dX5_spare_4 : decode cX5_spare 4 = .ok (.invokestatic 53, 3) := by decide +kernel
theorem dX5_spare_7 : decode cX5_spare 7 = .ok (.ifCond .eq 12, 3) := by decide +kernel
theorem dX5_spare_10 : decode cX5_spare 10 = .ok (.iload_n 2, 1) := by decide +kernel
theorem dX5_spare_11 : decode cX5_spare 11 = .ok (.iconst 0, 1) := by decide +kernel
theorem dX5_spare_12 : decode cX5_spare 12 = .ok (.iconst 1, 1) := by decide +kernel
theorem dX5_spare_13 : decode cX5_spare 13 = .ok (.invokestatic 53, 3) := by decide +kernel
theorem dX5_spare_16 : decode cX5_spare 16 = .ok (.ifCond .ne 5, 3) := by decide +kernel
theorem dX5_spare_19 : decode cX5_spare 19 = .ok (.iconst (-1), 1) := by decide +kernel
theorem dX5_spare_20 : decode cX5_spare 20 = .ok (.ireturn, 1) := by decide +kernel
theorem dX5_spare_21 : decode cX5_spare 21 = .ok (.aload_n 0, 1) := by decide +kernel
theorem dX5_spare_22 : decode cX5_spare 22 = .ok (.getfield 32, 3) := by decide +kernel
theorem dX5_spare_25 : decode cX5_spare 25 = .ok (.aload_n 0, 1) := by decide +kernel
theorem dX5_spare_26 : decode cX5_spare 26 = .ok (.getfield 10, 3) := by decide +kernel
theorem dX5_spare_29 : decode cX5_spare 29 = .ok (.iload_n 1, 1) := by decide +kernel
theorem dX5_spare_30 : decode cX5_spare 30 = .ok (.invokevirtual 195, 3) := by decide +kernel
theorem dX5_spare_33 : decode cX5_spare 33 = .ok (.istore_n 3, 1) := by decide +kernel
theorem dX5_spare_34 : decode cX5_spare 34 = .ok (.iload_n 3, 1) := by decide +kernel
theorem dX5_spare_35 : decode cX5_spare 35 = .ok (.ifCond .lt 7, 3) := by decide +kernel
theorem dX5_spare_38 : decode cX5_spare 38 = .ok (.iload_n 2, 1) := by decide +kernel
theorem dX5_spare_39 : decode cX5_spare 39 = .ok (.ifCond .ne 7, 3) := by decide +kernel
theorem dX5_spare_42 : decode cX5_spare 42 = .ok (.iload_n 3, 1) := by decide +kernel
theorem dX5_spare_43 : decode cX5_spare 43 = .ok (.goto 16, 3) := by decide +kernel
theorem dX5_spare_46 : decode cX5_spare 46 = .ok (.aload_n 0, 1) := by decide +kernel
theorem dX5_spare_47 : decode cX5_spare 47 = .ok (.getfield 32, 3) := by decide +kernel
theorem dX5_spare_50 : decode cX5_spare 50 = .ok (.aload_n 0, 1) := by decide +kernel
theorem dX5_spare_51 : decode cX5_spare 51 = .ok (.getfield 10, 3) := by decide +kernel
theorem dX5_spare_54 : decode cX5_spare 54 = .ok (.iload_n 3, 1) := by decide +kernel
theorem dX5_spare_55 : decode cX5_spare 55 = .ok (.iload_n 1, 1) := by decide +kernel
theorem dX5_spare_56 : decode cX5_spare 56 = .ok (.invokevirtual 198, 3) := by decide +kernel
theorem dX5_spare_59 : decode cX5_spare 59 = .ok (.ireturn, 1) := by decide +kernel
theorem dX5_match_0 : decode cX5_match 0 = .ok (.aload_n 0, 1) := by decide +kernel
theorem dX5_match_1 : decode cX5_match 1 = .ok (.getfield 10, 3) := by decide +kernel
theorem dX5_match_4 : decode cX5_match 4 = .ok (.invokevirtual 201, 3) := by decide +kernel
theorem dX5_match_7 : decode cX5_match 7 = .ok (.ireturn, 1) := by decide +kernel
theorem dX5_care_0 : decode cX5_care 0 = .ok (.aload_n 0, 1) := by decide +kernel
theorem dX5_care_1 : decode cX5_care 1 = .ok (.iload_n 1, 1) := by decide +kernel
theorem dX5_care_2 : decode cX5_care 2 = .ok (.invokevirtual 78, 3) := by decide +kernel
theorem dX5_care_5 : decode cX5_care 5 = .ok (.ifCond .eq 13, 3) := by decide +kernel
theorem dX5_care_8 : decode cX5_care 8 = .ok (.iload_n 2, 1) := by decide +kernel
theorem dX5_care_9 : decode cX5_care 9 = .ok (.iconst 1, 1) := by decide +kernel
theorem dX5_care_10 : decode cX5_care 10 = .ok (.bipush 40, 2) := by decide +kernel
theorem dX5_care_12 : decode cX5_care 12 = .ok (.invokestatic 53, 3) := by decide +kernel
theorem dX5_care_15 : decode cX5_care 15 = .ok (.ifCond .ne 5, 3) := by decide +kernel
theorem dX5_care_18 : decode cX5_care 18 = .ok (.iconst (-1), 1) := by decide +kernel
theorem dX5_care_19 : decode cX5_care 19 = .ok (.ireturn, 1) := by decide +kernel
theorem dX5_care_20 : decode cX5_care 20 = .ok (.aload_n 0, 1) := by decide +kernel
theorem dX5_care_21 : decode cX5_care 21 = .ok (.getfield 32, 3) := by decide +kernel
theorem dX5_care_24 : decode cX5_care 24 = .ok (.aload_n 0, 1) := by decide +kernel
theorem dX5_care_25 : decode cX5_care 25 = .ok (.getfield 10, 3) := by decide +kernel
theorem dX5_care_28 : decode cX5_care 28 = .ok (.iload_n 1, 1) := by decide +kernel
theorem dX5_care_29 : decode cX5_care 29 = .ok (.iload_n 2, 1) := by decide +kernel
theorem dX5_care_30 : decode cX5_care 30 = .ok (.invokevirtual 204, 3) := by decide +kernel
theorem dX5_care_33 : decode cX5_care 33 = .ok (.ireturn, 1) := by decide +kernel
theorem dX5_leave_0 : decode cX5_leave 0 = .ok (.aload_n 0, 1) := by decide +kernel
theorem dX5_leave_1 : decode cX5_leave 1 = .ok (.iload_n 1, 1) := by decide +kernel
theorem dX5_leave_2 : decode cX5_leave 2 = .ok (.invokevirtual 78, 3) := by decide +kernel
theorem dX5_leave_5 : decode cX5_leave 5 = .ok (.ifCond .eq 22, 3) := by decide +kernel
theorem dX5_leave_8 : decode cX5_leave 8 = .ok (.iload_n 2, 1) := by decide +kernel
theorem dX5_leave_9 : decode cX5_leave 9 = .ok (.iconst 0, 1) := by decide +kernel
theorem dX5_leave_10 : decode cX5_leave 10 = .ok (.bipush 10, 2) := by decide +kernel
theorem dX5_leave_12 : decode cX5_leave 12 = .ok (.invokestatic 53, 3) := by decide +kernel
theorem dX5_leave_15 : decode cX5_leave 15 = .ok (.ifCond .eq 12, 3) := by decide +kernel
theorem dX5_leave_18 : decode cX5_leave 18 = .ok (.iload_n 3, 1) := by decide +kernel
theorem dX5_leave_19 : decode cX5_leave 19 = .ok (.iconst 0, 1) := by decide +kernel
theorem dX5_leave_20 : decode cX5_leave 20 = .ok (.iconst 1, 1) := by decide +kernel
theorem dX5_leave_21 : decode cX5_leave 21 = .ok (.invokestatic 53, 3) := by decide +kernel
theorem dX5_leave_24 : decode cX5_leave 24 = .ok (.ifCond .ne 5, 3) := by decide +kernel
theorem dX5_leave_27 : decode cX5_leave 27 = .ok (.iconst (-1), 1) := by decide +kernel
theorem dX5_leave_28 : decode cX5_leave 28 = .ok (.ireturn, 1) := by decide +kernel
theorem dX5_leave_29 : decode cX5_leave 29 = .ok (.aload_n 0, 1) := by decide +kernel
theorem dX5_leave_30 : decode cX5_leave 30 = .ok (.getfield 10, 3) := by decide +kernel
theorem dX5_leave_33 : decode cX5_leave 33 = .ok (.iload_n 1, 1) := by decide +kernel
theorem dX5_leave_34 : decode cX5_leave 34 = .ok (.iload_n 2, 1) := by decide +kernel
theorem dX5_leave_35 : decode cX5_leave 35 = .ok (.invokevirtual 207, 3) := by decide +kernel
theorem dX5_leave_38 : decode cX5_leave 38 = .ok (.istore 4, 2) := by decide +kernel
theorem dX5_leave_40 : decode cX5_leave 40 = .ok (.bipush 10, 2) := by decide +kernel
theorem dX5_leave_42 : decode cX5_leave 42 = .ok (.aload_n 0, 1) := by decide +kernel
theorem dX5_leave_43 : decode cX5_leave 43 = .ok (.getfield 10, 3) := by decide +kernel
theorem dX5_leave_46 : decode cX5_leave 46 = .ok (.getfield 68, 3) := by decide +kernel
theorem dX5_leave_49 : decode cX5_leave 49 = .ok (.invokestatic 210, 3) := by decide +kernel
theorem dX5_leave_52 : decode cX5_leave 52 = .ok (.istore 5, 2) := by decide +kernel
theorem dX5_leave_54 : decode cX5_leave 54 = .ok (.iconst 0, 1) := by decide +kernel
theorem dX5_leave_55 : decode cX5_leave 55 = .ok (.istore 6, 2) := by decide +kernel
theorem dX5_leave_57 : decode cX5_leave 57 = .ok (.iload 6, 2) := by decide +kernel
theorem dX5_leave_59 : decode cX5_leave 59 = .ok (.iconst 4, 1) := by decide +kernel
theorem dX5_leave_60 : decode cX5_leave 60 = .ok (.if_icmp .ge 61, 3) := by decide +kernel
theorem dX5_leave_63 : decode cX5_leave 63 = .ok (.iload 4, 2) := by decide +kernel
theorem dX5_leave_65 : decode cX5_leave 65 = .ok (.iconst 2, 1) := by decide +kernel
theorem dX5_leave_66 : decode cX5_leave 66 = .ok (.irem, 1) := by decide +kernel
theorem dX5_leave_67 : decode cX5_leave 67 = .ok (.ifCond .ne 22, 3) := by decide +kernel
theorem dX5_leave_70 : decode cX5_leave 70 = .ok (.iload 5, 2) := by decide +kernel
theorem dX5_leave_72 : decode cX5_leave 72 = .ok (.iconst 2, 1) := by decide +kernel
theorem dX5_leave_73 : decode cX5_leave 73 = .ok (.irem, 1) := by decide +kernel
theorem dX5_leave_74 : decode cX5_leave 74 = .ok (.ifCond .ne 15, 3) := by decide +kernel
theorem dX5_leave_77 : decode cX5_leave 77 = .ok (.iload 4, 2) := by decide +kernel
theorem dX5_leave_79 : decode cX5_leave 79 = .ok (.iconst 2, 1) := by decide +kernel
theorem dX5_leave_80 : decode cX5_leave 80 = .ok (.idiv, 1) := by decide +kernel
theorem dX5_leave_81 : decode cX5_leave 81 = .ok (.istore 4, 2) := by decide +kernel
theorem dX5_leave_83 : decode cX5_leave 83 = .ok (.iload 5, 2) := by decide +kernel
theorem dX5_leave_85 : decode cX5_leave 85 = .ok (.iconst 2, 1) := by decide +kernel
theorem dX5_leave_86 : decode cX5_leave 86 = .ok (.idiv, 1) := by decide +kernel
theorem dX5_leave_87 : decode cX5_leave 87 = .ok (.istore 5, 2) := by decide +kernel
theorem dX5_leave_89 : decode cX5_leave 89 = .ok (.iload 4, 2) := by decide +kernel
theorem dX5_leave_91 : decode cX5_leave 91 = .ok (.iconst 5, 1) := by decide +kernel
theorem dX5_leave_92 : decode cX5_leave 92 = .ok (.irem, 1) := by decide +kernel
theorem dX5_leave_93 : decode cX5_leave 93 = .ok (.ifCond .ne 22, 3) := by decide +kernel
theorem dX5_leave_96 : decode cX5_leave 96 = .ok (.iload 5, 2) := by decide +kernel
theorem dX5_leave_98 : decode cX5_leave 98 = .ok (.iconst 5, 1) := by decide +kernel
theorem dX5_leave_99 : decode cX5_leave 99 = .ok (.irem, 1) := by decide +kernel
theorem dX5_leave_100 : decode cX5_leave 100 = .ok (.ifCond .ne 15, 3) := by decide +kernel
theorem dX5_leave_103 : decode cX5_leave 103 = .ok (.iload 4, 2) := by decide +kernel
theorem dX5_leave_105 : decode cX5_leave 105 = .ok (.iconst 5, 1) := by decide +kernel
