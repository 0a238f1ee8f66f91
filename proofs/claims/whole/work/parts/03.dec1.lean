theorem dX0_init_0 : decode cX0_init 0 = .ok (.aload_n 0, 1) := by decide +kernel
theorem dX0_init_1 : decode cX0_init 1 = .ok (.invokespecial 3, 3) := by decide +kernel
theorem dX0_init_4 : decode cX0_init 4 = .ok (.aload_n 0, 1) := by decide +kernel
theorem dX0_init_5 : decode cX0_init 5 = .ok (.new 9, 3) := by decide +kernel
theorem dX0_init_8 : decode cX0_init 8 = .ok (.dup, 1) := by decide +kernel
theorem dX0_init_9 : decode cX0_init 9 = .ok (.invokespecial 11, 3) := by decide +kernel
theorem dX0_init_12 : decode cX0_init 12 = .ok (.putfield 12, 3) := by decide +kernel
theorem dX0_init_15 : decode cX0_init 15 = .ok (.return_, 1) := by decide +kernel
theorem dX0_after_0 : decode cX0_after 0 = .ok (.aload_n 0, 1) := by decide +kernel
theorem dX0_after_1 : decode cX0_after 1 = .ok (.getfield 12, 3) := by decide +kernel
theorem dX0_after_4 : decode cX0_after 4 = .ok (.aload_n 1, 1) := by decide +kernel
theorem dX0_after_5 : decode cX0_after 5 = .ok (.invokevirtual 18, 3) := by decide +kernel
theorem dX0_after_8 : decode cX0_after 8 = .ok (.aload_n 0, 1) := by decide +kernel
theorem dX0_after_9 : decode cX0_after 9 = .ok (.iload_n 2, 1) := by decide +kernel
theorem dX0_after_10 : decode cX0_after 10 = .ok (.iconst 0, 1) := by decide +kernel
theorem dX0_after_11 : decode cX0_after 11 = .ok (.invokevirtual 22, 3) := by decide +kernel
theorem dX0_after_14 : decode cX0_after 14 = .ok (.aload_n 0, 1) := by decide +kernel
theorem dX0_after_15 : decode cX0_after 15 = .ok (.getfield 12, 3) := by decide +kernel
theorem dX0_after_18 : decode cX0_after 18 = .ok (.areturn, 1) := by decide +kernel
theorem dX0_passNights_0 : decode cX0_passNights 0 = .ok (.iconst 0, 1) := by decide +kernel
theorem dX0_passNights_1 : decode cX0_passNights 1 = .ok (.istore_n 3, 1) := by decide +kernel
theorem dX0_passNights_2 : decode cX0_passNights 2 = .ok (.iload_n 3, 1) := by decide +kernel
theorem dX0_passNights_3 : decode cX0_passNights 3 = .ok (.iload_n 1, 1) := by decide +kernel
theorem dX0_passNights_4 : decode cX0_passNights 4 = .ok (.if_icmp .ge 17, 3) := by decide +kernel
theorem dX0_passNights_7 : decode cX0_passNights 7 = .ok (.aload_n 0, 1) := by decide +kernel
theorem dX0_passNights_8 : decode cX0_passNights 8 = .ok (.getfield 12, 3) := by decide +kernel
theorem dX0_passNights_11 : decode cX0_passNights 11 = .ok (.iload_n 2, 1) := by decide +kernel
theorem dX0_passNights_12 : decode cX0_passNights 12 = .ok (.invokevirtual 26, 3) := by decide +kernel
theorem dX0_passNights_15 : decode cX0_passNights 15 = .ok (.iinc 3 1, 3) := by decide +kernel
theorem dX0_passNights_18 : decode cX0_passNights 18 = .ok (.goto (-16), 3) := by decide +kernel
theorem dX0_passNights_21 : decode cX0_passNights 21 = .ok (.return_, 1) := by decide +kernel
theorem dX0_nightsUntilSworn_0 : decode cX0_nightsUntilSworn 0 = .ok (.aload_n 0, 1) := by decide +kernel
theorem dX0_nightsUntilSworn_1 : decode cX0_nightsUntilSworn 1 = .ok (.getfield 12, 3) := by decide +kernel
theorem dX0_nightsUntilSworn_4 : decode cX0_nightsUntilSworn 4 = .ok (.aload_n 1, 1) := by decide +kernel
theorem dX0_nightsUntilSworn_5 : decode cX0_nightsUntilSworn 5 = .ok (.invokevirtual 18, 3) := by decide +kernel
theorem dX0_nightsUntilSworn_8 : decode cX0_nightsUntilSworn 8 = .ok (.iconst 0, 1) := by decide +kernel
theorem dX0_nightsUntilSworn_9 : decode cX0_nightsUntilSworn 9 = .ok (.istore_n 3, 1) := by decide +kernel
theorem dX0_nightsUntilSworn_10 : decode cX0_nightsUntilSworn 10 = .ok (.iload_n 3, 1) := by decide +kernel
theorem dX0_nightsUntilSworn_11 : decode cX0_nightsUntilSworn 11 = .ok (.bipush 99, 2) := by decide +kernel
theorem dX0_nightsUntilSworn_13 : decode cX0_nightsUntilSworn 13 = .ok (.if_icmp .ge 33, 3) := by decide +kernel
theorem dX0_nightsUntilSworn_16 : decode cX0_nightsUntilSworn 16 = .ok (.aload_n 0, 1) := by decide +kernel
theorem dX0_nightsUntilSworn_17 : decode cX0_nightsUntilSworn 17 = .ok (.getfield 12, 3) := by decide +kernel
theorem dX0_nightsUntilSworn_20 : decode cX0_nightsUntilSworn 20 = .ok (.getfield 30, 3) := by decide +kernel
theorem dX0_nightsUntilSworn_23 : decode cX0_nightsUntilSworn 23 = .ok (.iload_n 2, 1) := by decide +kernel
theorem dX0_nightsUntilSworn_24 : decode cX0_nightsUntilSworn 24 = .ok (.invokestatic 34, 3) := by decide +kernel
theorem dX0_nightsUntilSworn_27 : decode cX0_nightsUntilSworn 27 = .ok (.ifCond .eq 5, 3) := by decide +kernel
theorem dX0_nightsUntilSworn_30 : decode cX0_nightsUntilSworn 30 = .ok (.iload_n 3, 1) := by decide +kernel
theorem dX0_nightsUntilSworn_31 : decode cX0_nightsUntilSworn 31 = .ok (.ireturn, 1) := by decide +kernel
theorem dX0_nightsUntilSworn_32 : decode cX0_nightsUntilSworn 32 = .ok (.aload_n 0, 1) := by decide +kernel
theorem dX0_nightsUntilSworn_33 : decode cX0_nightsUntilSworn 33 = .ok (.getfield 12, 3) := by decide +kernel
theorem dX0_nightsUntilSworn_36 : decode cX0_nightsUntilSworn 36 = .ok (.iconst 0, 1) := by decide +kernel
theorem dX0_nightsUntilSworn_37 : decode cX0_nightsUntilSworn 37 = .ok (.invokevirtual 26, 3) := by decide +kernel
theorem dX0_nightsUntilSworn_40 : decode cX0_nightsUntilSworn 40 = .ok (.iinc 3 1, 3) := by decide +kernel
theorem dX0_nightsUntilSworn_43 : decode cX0_nightsUntilSworn 43 = .ok (.goto (-33), 3) := by decide +kernel
theorem dX0_nightsUntilSworn_46 : decode cX0_nightsUntilSworn 46 = .ok (.aload_n 0, 1) := by decide +kernel
theorem dX0_nightsUntilSworn_47 : decode cX0_nightsUntilSworn 47 = .ok (.getfield 12, 3) := by decide +kernel
theorem dX0_nightsUntilSworn_50 : decode cX0_nightsUntilSworn 50 = .ok (.getfield 30, 3) := by decide +kernel
theorem dX0_nightsUntilSworn_53 : decode cX0_nightsUntilSworn 53 = .ok (.iload_n 2, 1) := by decide +kernel
theorem dX0_nightsUntilSworn_54 : decode cX0_nightsUntilSworn 54 = .ok (.invokestatic 34, 3) := by decide +kernel
theorem dX0_nightsUntilSworn_57 : decode cX0_nightsUntilSworn 57 = .ok (.ifCond .eq 8, 3) := by decide +kernel
theorem dX0_nightsUntilSworn_60 : decode cX0_nightsUntilSworn 60 = .ok (.bipush 99, 2) := by decide +kernel
theorem dX0_nightsUntilSworn_62 : decode cX0_nightsUntilSworn 62 = .ok (.goto 5, 3) := by decide +kernel
theorem dX0_nightsUntilSworn_65 : decode cX0_nightsUntilSworn 65 = .ok (.bipush (-4), 2) := by decide +kernel
theorem dX0_nightsUntilSworn_67 : decode cX0_nightsUntilSworn 67 = .ok (.ireturn, 1) := by decide +kernel
theorem dX0_bestHiding_0 : decode cX0_bestHiding 0 = .ok (.aload_n 1, 1) := by decide +kernel
theorem dX0_bestHiding_1 : decode cX0_bestHiding 1 = .ok (.getfield 30, 3) := by decide +kernel
theorem dX0_bestHiding_4 : decode cX0_bestHiding 4 = .ok (.iload_n 2, 1) := by decide +kernel
theorem dX0_bestHiding_5 : decode cX0_bestHiding 5 = .ok (.invokestatic 34, 3) := by decide +kernel
theorem dX0_bestHiding_8 : decode cX0_bestHiding 8 = .ok (.ifCond .eq 5, 3) := by decide +kernel
theorem dX0_bestHiding_11 : decode cX0_bestHiding 11 = .ok (.iconst 0, 1) := by decide +kernel
theorem dX0_bestHiding_12 : decode cX0_bestHiding 12 = .ok (.ireturn, 1) := by decide +kernel
theorem dX0_bestHiding_13 : decode cX0_bestHiding 13 = .ok (.bipush (-4), 2) := by decide +kernel
theorem dX0_bestHiding_15 : decode cX0_bestHiding 15 = .ok (.istore 4, 2) := by decide +kernel
theorem dX0_bestHiding_17 : decode cX0_bestHiding 17 = .ok (.bipush 100, 2) := by decide +kernel
theorem dX0_bestHiding_19 : decode cX0_bestHiding 19 = .ok (.istore 5, 2) := by decide +kernel
theorem dX0_bestHiding_21 : decode cX0_bestHiding 21 = .ok (.iconst 0, 1) := by decide +kernel
theorem dX0_bestHiding_22 : decode cX0_bestHiding 22 = .ok (.istore 6, 2) := by decide +kernel
theorem dX0_bestHiding_24 : decode cX0_bestHiding 24 = .ok (.iload 6, 2) := by decide +kernel
theorem dX0_bestHiding_26 : decode cX0_bestHiding 26 = .ok (.bipush 20, 2) := by decide +kernel
theorem dX0_bestHiding_28 : decode cX0_bestHiding 28 = .ok (.if_icmp .gt 36, 3) := by decide +kernel
theorem dX0_bestHiding_31 : decode cX0_bestHiding 31 = .ok (.aload_n 0, 1) := by decide +kernel
theorem dX0_bestHiding_32 : decode cX0_bestHiding 32 = .ok (.aload_n 1, 1) := by decide +kernel
theorem dX0_bestHiding_33 : decode cX0_bestHiding 33 = .ok (.iload_n 2, 1) := by decide +kernel
theorem dX0_bestHiding_34 : decode cX0_bestHiding 34 = .ok (.iload 6, 2) := by decide +kernel
theorem dX0_bestHiding_36 : decode cX0_bestHiding 36 = .ok (.iload 5, 2) := by decide +kernel
theorem dX0_bestHiding_38 : decode cX0_bestHiding 38 = .ok (.iconst 1, 1) := by decide +kernel
theorem dX0_bestHiding_39 : decode cX0_bestHiding 39 = .ok (.isub, 1) := by decide +kernel
theorem dX0_bestHiding_40 : decode cX0_bestHiding 40 = .ok (.invokevirtual 38, 3) := by decide +kernel
theorem dX0_bestHiding_43 : decode cX0_bestHiding 43 = .ok (.istore 7, 2) := by decide +kernel
theorem dX0_bestHiding_45 : decode cX0_bestHiding 45 = .ok (.iload 7, 2) := by decide +kernel
theorem dX0_bestHiding_47 : decode cX0_bestHiding 47 = .ok (.ifCond .lt 11, 3) := by decide +kernel
theorem dX0_bestHiding_50 : decode cX0_bestHiding 50 = .ok (.iload 6, 2) := by decide +kernel
theorem dX0_bestHiding_52 : decode cX0_bestHiding 52 = .ok (.istore 4, 2) := by decide +kernel
theorem dX0_bestHiding_54 : decode cX0_bestHiding 54 = .ok (.iload 7, 2) := by decide +kernel
theorem dX0_bestHiding_56 : decode cX0_bestHiding 56 = .ok (.istore 5, 2) := by decide +kernel
theorem dX0_bestHiding_58 : decode cX0_bestHiding 58 = .ok (.iinc 6 1, 3) := by decide +kernel
theorem dX0_bestHiding_61 : decode cX0_bestHiding 61 = .ok (.goto (-37), 3) := by decide +kernel
theorem dX0_bestHiding_64 : decode cX0_bestHiding 64 = .ok (.iload 4, 2) := by decide +kernel
theorem dX0_bestHiding_66 : decode cX0_bestHiding 66 = .ok (.ifCond .lt 7, 3) := by decide +kernel
theorem dX0_bestHiding_69 : decode cX0_bestHiding 69 = .ok (.iload_n 3, 1) := by decide +kernel
theorem dX0_bestHiding_70 : decode cX0_bestHiding 70 = .ok (.ifCond .eq 8, 3) := by decide +kernel
theorem dX0_bestHiding_73 : decode cX0_bestHiding 73 = .ok (.iload 4, 2) := by decide +kernel
theorem dX0_bestHiding_75 : decode cX0_bestHiding 75 = .ok (.goto 5, 3) := by decide +kernel
theorem dX0_bestHiding_78 : decode cX0_bestHiding 78 = .ok (.iload 5, 2) := by decide +kernel
theorem dX0_bestHiding_80 : decode cX0_bestHiding 80 = .ok (.ireturn, 1) := by decide +kernel
theorem dX0_nightsIfHidden_0 : decode cX0_nightsIfHidden 0 = .ok (.aload_n 0, 1) := by decide +kernel
theorem dX0_nightsIfHidden_1 : decode cX0_nightsIfHidden 1 = .ok (.getfield 12, 3) := by decide +kernel
theorem dX0_nightsIfHidden_4 : decode cX0_nightsIfHidden 4 = .ok (.aload_n 1, 1) := by decide +kernel
theorem dX0_nightsIfHidden_5 : decode cX0_nightsIfHidden 5 = .ok (.invokevirtual 18, 3) := by decide +kernel
theorem dX0_nightsIfHidden_8 : decode cX0_nightsIfHidden 8 = .ok (.iconst 0, 1) := by decide +kernel
theorem dX0_nightsIfHidden_9 : decode cX0_nightsIfHidden 9 = .ok (.istore 5, 2) := by decide +kernel
theorem dX0_nightsIfHidden_11 : decode cX0_nightsIfHidden 11 = .ok (.iload 5, 2) := by decide +kernel
theorem dX0_nightsIfHidden_13 : decode cX0_nightsIfHidden 13 = .ok (.iload 4, 2) := by decide +kernel
theorem dX0_nightsIfHidden_15 : decode cX0_nightsIfHidden 15 = .ok (.if_icmp .ge 55, 3) := by decide +kernel
theorem dX0_nightsIfHidden_18 : decode cX0_nightsIfHidden 18 = .ok (.aload_n 0, 1) := by decide +kernel
theorem dX0_nightsIfHidden_19 : decode cX0_nightsIfHidden 19 = .ok (.getfield 12, 3) := by decide +kernel
theorem dX0_nightsIfHidden_22 : decode cX0_nightsIfHidden 22 = .ok (.iload_n 2, 1) := by decide +kernel
theorem dX0_nightsIfHidden_23 : decode cX0_nightsIfHidden 23 = .ok (.iload 5, 2) := by decide +kernel
theorem dX0_nightsIfHidden_25 : decode cX0_nightsIfHidden 25 = .ok (.iload_n 3, 1) := by decide +kernel
theorem dX0_nightsIfHidden_26 : decode cX0_nightsIfHidden 26 = .ok (.if_icmp .lt 7, 3) := by decide +kernel
theorem dX0_nightsIfHidden_29 : decode cX0_nightsIfHidden 29 = .ok (.iconst 1, 1) := by decide +kernel
theorem dX0_nightsIfHidden_30 : decode cX0_nightsIfHidden 30 = .ok (.goto 4, 3) := by decide +kernel
theorem dX0_nightsIfHidden_33 : decode cX0_nightsIfHidden 33 = .ok (.iconst 0, 1) := by decide +kernel
theorem dX0_nightsIfHidden_34 : decode cX0_nightsIfHidden 34 = .ok (.invokevirtual 42, 3) := by decide +kernel
theorem dX0_nightsIfHidden_37 : decode cX0_nightsIfHidden 37 = .ok (.aload_n 0, 1) := by decide +kernel
theorem dX0_nightsIfHidden_38 : decode cX0_nightsIfHidden 38 = .ok (.getfield 12, 3) := by decide +kernel
theorem dX0_nightsIfHidden_41 : decode cX0_nightsIfHidden 41 = .ok (.iconst 0, 1) := by decide +kernel
theorem dX0_nightsIfHidden_42 : decode cX0_nightsIfHidden 42 = .ok (.invokevirtual 26, 3) := by decide +kernel
theorem dX0_nightsIfHidden_45 : decode cX0_nightsIfHidden 45 = .ok (.aload_n 0, 1) := by decide +kernel
theorem dX0_nightsIfHidden_46 : decode cX0_nightsIfHidden 46 = .ok (.getfield 12, 3) := by decide +kernel
theorem dX0_nightsIfHidden_49 : decode cX0_nightsIfHidden 49 = .ok (.getfield 30, 3) := by decide +kernel
theorem dX0_nightsIfHidden_52 : decode cX0_nightsIfHidden 52 = .ok (.iload_n 2, 1) := by decide +kernel
theorem dX0_nightsIfHidden_53 : decode cX0_nightsIfHidden 53 = .ok (.invokestatic 34, 3) := by decide +kernel
theorem dX0_nightsIfHidden_56 : decode cX0_nightsIfHidden 56 = .ok (.ifCond .eq 8, 3) := by decide +kernel
theorem dX0_nightsIfHidden_59 : decode cX0_nightsIfHidden 59 = .ok (.iload 5, 2) := by decide +kernel
theorem dX0_nightsIfHidden_61 : decode cX0_nightsIfHidden 61 = .ok (.iconst 1, 1) := by decide +kernel
theorem dX0_nightsIfHidden_62 : decode cX0_nightsIfHidden 62 = .ok (.iadd, 1) := by decide +kernel
theorem dX0_nightsIfHidden_63 : decode cX0_nightsIfHidden 63 = .ok (.ireturn, 1) := by decide +kernel
theorem dX0_nightsIfHidden_64 : decode cX0_nightsIfHidden 64 = .ok (.iinc 5 1, 3) := by decide +kernel
theorem dX0_nightsIfHidden_67 : decode cX0_nightsIfHidden 67 = .ok (.goto (-56), 3) := by decide +kernel
theorem dX0_nightsIfHidden_70 : decode cX0_nightsIfHidden 70 = .ok (.bipush (-4), 2) := by decide +kernel
theorem dX0_nightsIfHidden_72 : decode cX0_nightsIfHidden 72 = .ok (.ireturn, 1) := by decide +kernel
theorem dX0_leastCover_0 : decode cX0_leastCover 0 = .ok (.aload_n 1, 1) := by decide +kernel
theorem dX0_leastCover_1 : decode cX0_leastCover 1 = .ok (.getfield 46, 3) := by decide +kernel
theorem dX0_leastCover_4 : decode cX0_leastCover 4 = .ok (.iconst 1, 1) := by decide +kernel
theorem dX0_leastCover_5 : decode cX0_leastCover 5 = .ok (.iload_n 2, 1) := by decide +kernel
theorem dX0_leastCover_6 : decode cX0_leastCover 6 = .ok (.ishl, 1) := by decide +kernel
theorem dX0_leastCover_7 : decode cX0_leastCover 7 = .ok (.iconst (-1), 1) := by decide +kernel
theorem dX0_leastCover_8 : decode cX0_leastCover 8 = .ok (.ixor, 1) := by decide +kernel
theorem dX0_leastCover_9 : decode cX0_leastCover 9 = .ok (.iand, 1) := by decide +kernel
theorem dX0_leastCover_10 : decode cX0_leastCover 10 = .ok (.istore 4, 2) := by decide +kernel
theorem dX0_leastCover_12 : decode cX0_leastCover 12 = .ok (.bipush (-4), 2) := by decide +kernel
theorem dX0_leastCover_14 : decode cX0_leastCover 14 = .ok (.istore 5, 2) := by decide +kernel
theorem dX0_leastCover_16 : decode cX0_leastCover 16 = .ok (.iconst 0, 1) := by decide +kernel
theorem dX0_leastCover_17 : decode cX0_leastCover 17 = .ok (.istore 6, 2) := by decide +kernel
theorem dX0_leastCover_19 : decode cX0_leastCover 19 = .ok (.iload 6, 2) := by decide +kernel
theorem dX0_leastCover_21 : decode cX0_leastCover 21 = .ok (.bipush 64, 2) := by decide +kernel
theorem dX0_leastCover_23 : decode cX0_leastCover 23 = .ok (.if_icmp .ge 100, 3) := by decide +kernel
theorem dX0_leastCover_26 : decode cX0_leastCover 26 = .ok (.iload 5, 2) := by decide +kernel
theorem dX0_leastCover_28 : decode cX0_leastCover 28 = .ok (.ifCond .lt 16, 3) := by decide +kernel
theorem dX0_leastCover_31 : decode cX0_leastCover 31 = .ok (.iload 6, 2) := by decide +kernel
theorem dX0_leastCover_33 : decode cX0_leastCover 33 = .ok (.invokestatic 49, 3) := by decide +kernel
theorem dX0_leastCover_36 : decode cX0_leastCover 36 = .ok (.iload 5, 2) := by decide +kernel
theorem dX0_leastCover_38 : decode cX0_leastCover 38 = .ok (.invokestatic 49, 3) := by decide +kernel
theorem dX0_leastCover_41 : decode cX0_leastCover 41 = .ok (.if_icmp .ge 7, 3) := by decide +kernel
theorem dX0_leastCover_44 : decode cX0_leastCover 44 = .ok (.iconst 1, 1) := by decide +kernel
theorem dX0_leastCover_45 : decode cX0_leastCover 45 = .ok (.goto 4, 3) := by decide +kernel
theorem dX0_leastCover_48 : decode cX0_leastCover 48 = .ok (.iconst 0, 1) := by decide +kernel
theorem dX0_leastCover_49 : decode cX0_leastCover 49 = .ok (.istore 7, 2) := by decide +kernel
theorem dX0_leastCover_51 : decode cX0_leastCover 51 = .ok (.iload 7, 2) := by decide +kernel
theorem dX0_leastCover_53 : decode cX0_leastCover 53 = .ok (.ifCond .eq 64, 3) := by decide +kernel
theorem dX0_leastCover_56 : decode cX0_leastCover 56 = .ok (.iload 6, 2) := by decide +kernel
theorem dX0_leastCover_58 : decode cX0_leastCover 58 = .ok (.iload 4, 2) := by decide +kernel
theorem dX0_leastCover_60 : decode cX0_leastCover 60 = .ok (.iconst (-1), 1) := by decide +kernel
theorem dX0_leastCover_61 : decode cX0_leastCover 61 = .ok (.ixor, 1) := by decide +kernel
theorem dX0_leastCover_62 : decode cX0_leastCover 62 = .ok (.iand, 1) := by decide +kernel
theorem dX0_leastCover_63 : decode cX0_leastCover 63 = .ok (.ifCond .eq 6, 3) := by decide +kernel
theorem dX0_leastCover_66 : decode cX0_leastCover 66 = .ok (.goto 51, 3) := by decide +kernel
theorem dX0_leastCover_69 : decode cX0_leastCover 69 = .ok (.aload_n 0, 1) := by decide +kernel
theorem dX0_leastCover_70 : decode cX0_leastCover 70 = .ok (.getfield 12, 3) := by decide +kernel
theorem dX0_leastCover_73 : decode cX0_leastCover 73 = .ok (.aload_n 1, 1) := by decide +kernel
theorem dX0_leastCover_74 : decode cX0_leastCover 74 = .ok (.invokevirtual 18, 3) := by decide +kernel
theorem dX0_leastCover_77 : decode cX0_leastCover 77 = .ok (.aload_n 0, 1) := by decide +kernel
theorem dX0_leastCover_78 : decode cX0_leastCover 78 = .ok (.getfield 12, 3) := by decide +kernel
theorem dX0_leastCover_81 : decode cX0_leastCover 81 = .ok (.dup, 1) := by decide +kernel
theorem dX0_leastCover_82 : decode cX0_leastCover 82 = .ok (.getfield 46, 3) := by decide +kernel
theorem dX0_leastCover_85 : decode cX0_leastCover 85 = .ok (.iload 6, 2) := by decide +kernel
theorem dX0_leastCover_87 : decode cX0_leastCover 87 = .ok (.iconst (-1), 1) := by decide +kernel
theorem dX0_leastCover_88 : decode cX0_leastCover 88 = .ok (.ixor, 1) := by decide +kernel
theorem dX0_leastCover_89 : decode cX0_leastCover 89 = .ok (.iand, 1) := by decide +kernel
theorem dX0_leastCover_90 : decode cX0_leastCover 90 = .ok (.putfield 46, 3) := by decide +kernel
theorem dX0_leastCover_93 : decode cX0_leastCover 93 = .ok (.aload_n 0, 1) := by decide +kernel
theorem dX0_leastCover_94 : decode cX0_leastCover 94 = .ok (.iload_n 3, 1) := by decide +kernel
theorem dX0_leastCover_95 : decode cX0_leastCover 95 = .ok (.iconst 0, 1) := by decide +kernel
theorem dX0_leastCover_96 : decode cX0_leastCover 96 = .ok (.invokevirtual 22, 3) := by decide +kernel
theorem dX0_leastCover_99 : decode cX0_leastCover 99 = .ok (.aload_n 0, 1) := by decide +kernel
theorem dX0_leastCover_100 : decode cX0_leastCover 100 = .ok (.getfield 12, 3) := by decide +kernel
theorem dX0_leastCover_103 : decode cX0_leastCover 103 = .ok (.getfield 30, 3) := by decide +kernel
theorem dX0_leastCover_106 : decode cX0_leastCover 106 = .ok (.iload_n 2, 1) := by decide +kernel
theorem dX0_leastCover_107 : decode cX0_leastCover 107 = .ok (.invokestatic 34, 3) := by decide +kernel
theorem dX0_leastCover_110 : decode cX0_leastCover 110 = .ok (.ifCond .eq 7, 3) := by decide +kernel
theorem dX0_leastCover_113 : decode cX0_leastCover 113 = .ok (.iload 6, 2) := by decide +kernel
theorem dX0_leastCover_115 : decode cX0_leastCover 115 = .ok (.istore 5, 2) := by decide +kernel
theorem dX0_leastCover_117 : decode cX0_leastCover 117 = .ok (.iinc 6 1, 3) := by decide +kernel
theorem dX0_leastCover_120 : decode cX0_leastCover 120 = .ok (.goto (-101), 3) := by decide +kernel
theorem dX0_leastCover_123 : decode cX0_leastCover 123 = .ok (.iload 5, 2) := by decide +kernel
theorem dX0_leastCover_125 : decode cX0_leastCover 125 = .ok (.ireturn, 1) := by decide +kernel
theorem dX0_greatestBar_0 : decode cX0_greatestBar 0 = .ok (.bipush 99, 2) := by decide +kernel
theorem dX0_greatestBar_2 : decode cX0_greatestBar 2 = .ok (.istore_n 3, 1) := by decide +kernel
theorem dX0_greatestBar_3 : decode cX0_greatestBar 3 = .ok (.iload_n 3, 1) := by decide +kernel
theorem dX0_greatestBar_4 : decode cX0_greatestBar 4 = .ok (.ifCond .lt 50, 3) := by decide +kernel
theorem dX0_greatestBar_7 : decode cX0_greatestBar 7 = .ok (.aload_n 0, 1) := by decide +kernel
theorem dX0_greatestBar_8 : decode cX0_greatestBar 8 = .ok (.getfield 12, 3) := by decide +kernel
theorem dX0_greatestBar_11 : decode cX0_greatestBar 11 = .ok (.aload_n 1, 1) := by decide +kernel
theorem dX0_greatestBar_12 : decode cX0_greatestBar 12 = .ok (.invokevirtual 18, 3) := by decide +kernel
theorem dX0_greatestBar_15 : decode cX0_greatestBar 15 = .ok (.aload_n 0, 1) := by decide +kernel
theorem dX0_greatestBar_16 : decode cX0_greatestBar 16 = .ok (.getfield 12, 3) := by decide +kernel
theorem dX0_greatestBar_19 : decode cX0_greatestBar 19 = .ok (.iload_n 3, 1) := by decide +kernel
theorem dX0_greatestBar_20 : decode cX0_greatestBar 20 = .ok (.putfield 55, 3) := by decide +kernel
theorem dX0_greatestBar_23 : decode cX0_greatestBar 23 = .ok (.aload_n 0, 1) := by decide +kernel
theorem dX0_greatestBar_24 : decode cX0_greatestBar 24 = .ok (.iload_n 2, 1) := by decide +kernel
theorem dX0_greatestBar_25 : decode cX0_greatestBar 25 = .ok (.iconst 0, 1) := by decide +kernel
theorem dX0_greatestBar_26 : decode cX0_greatestBar 26 = .ok (.invokevirtual 22, 3) := by decide +kernel
theorem dX0_greatestBar_29 : decode cX0_greatestBar 29 = .ok (.aload_n 0, 1) := by decide +kernel
theorem dX0_greatestBar_30 : decode cX0_greatestBar 30 = .ok (.getfield 12, 3) := by decide +kernel
theorem dX0_greatestBar_33 : decode cX0_greatestBar 33 = .ok (.getfield 30, 3) := by decide +kernel
theorem dX0_greatestBar_36 : decode cX0_greatestBar 36 = .ok (.aload_n 0, 1) := by decide +kernel
theorem dX0_greatestBar_37 : decode cX0_greatestBar 37 = .ok (.getfield 12, 3) := by decide +kernel
theorem dX0_greatestBar_40 : decode cX0_greatestBar 40 = .ok (.invokevirtual 58, 3) := by decide +kernel
theorem dX0_greatestBar_43 : decode cX0_greatestBar 43 = .ok (.if_icmp .ne 5, 3) := by decide +kernel
theorem dX0_greatestBar_46 : decode cX0_greatestBar 46 = .ok (.iload_n 3, 1) := by decide +kernel
theorem dX0_greatestBar_47 : decode cX0_greatestBar 47 = .ok (.ireturn, 1) := by decide +kernel
theorem dX0_greatestBar_48 : decode cX0_greatestBar 48 = .ok (.iinc 3 (-1), 3) := by decide +kernel
theorem dX0_greatestBar_51 : decode cX0_greatestBar 51 = .ok (.goto (-48), 3) := by decide +kernel
theorem dX0_greatestBar_54 : decode cX0_greatestBar 54 = .ok (.bipush (-4), 2) := by decide +kernel
theorem dX0_greatestBar_56 : decode cX0_greatestBar 56 = .ok (.ireturn, 1) := by decide +kernel
theorem dX0_sparedThief_0 : decode cX0_sparedThief 0 = .ok (.bipush (-4), 2) := by decide +kernel
theorem dX0_sparedThief_2 : decode cX0_sparedThief 2 = .ok (.istore_n 3, 1) := by decide +kernel
theorem dX0_sparedThief_3 : decode cX0_sparedThief 3 = .ok (.iconst (-1), 1) := by decide +kernel
theorem dX0_sparedThief_4 : decode cX0_sparedThief 4 = .ok (.istore 4, 2) := by decide +kernel
theorem dX0_sparedThief_6 : decode cX0_sparedThief 6 = .ok (.iconst 0, 1) := by decide +kernel
theorem dX0_sparedThief_7 : decode cX0_sparedThief 7 = .ok (.istore 5, 2) := by decide +kernel
theorem dX0_sparedThief_9 : decode cX0_sparedThief 9 = .ok (.iload 5, 2) := by decide +kernel
theorem dX0_sparedThief_11 : decode cX0_sparedThief 11 = .ok (.aload_n 1, 1) := by decide +kernel
theorem dX0_sparedThief_12 : decode cX0_sparedThief 12 = .ok (.getfield 62, 3) := by decide +kernel
theorem dX0_sparedThief_15 : decode cX0_sparedThief 15 = .ok (.if_icmp .ge 33, 3) := by decide +kernel
theorem dX0_sparedThief_18 : decode cX0_sparedThief 18 = .ok (.aload_n 0, 1) := by decide +kernel
theorem dX0_sparedThief_19 : decode cX0_sparedThief 19 = .ok (.aload_n 1, 1) := by decide +kernel
theorem dX0_sparedThief_20 : decode cX0_sparedThief 20 = .ok (.iload 5, 2) := by decide +kernel
theorem dX0_sparedThief_22 : decode cX0_sparedThief 22 = .ok (.iload_n 2, 1) := by decide +kernel
theorem dX0_sparedThief_23 : decode cX0_sparedThief 23 = .ok (.invokevirtual 65, 3) := by decide +kernel
theorem dX0_sparedThief_26 : decode cX0_sparedThief 26 = .ok (.istore 6, 2) := by decide +kernel
theorem dX0_sparedThief_28 : decode cX0_sparedThief 28 = .ok (.iload 6, 2) := by decide +kernel
theorem dX0_sparedThief_30 : decode cX0_sparedThief 30 = .ok (.iload 4, 2) := by decide +kernel
theorem dX0_sparedThief_32 : decode cX0_sparedThief 32 = .ok (.if_icmp .le 10, 3) := by decide +kernel
theorem dX0_sparedThief_35 : decode cX0_sparedThief 35 = .ok (.iload 5, 2) := by decide +kernel
theorem dX0_sparedThief_37 : decode cX0_sparedThief 37 = .ok (.istore_n 3, 1) := by decide +kernel
theorem dX0_sparedThief_38 : decode cX0_sparedThief 38 = .ok (.iload 6, 2) := by decide +kernel
theorem dX0_sparedThief_40 : decode cX0_sparedThief 40 = .ok (.istore 4, 2) := by decide +kernel
theorem dX0_sparedThief_42 : decode cX0_sparedThief 42 = .ok (.iinc 5 1, 3) := by decide +kernel
theorem dX0_sparedThief_45 : decode cX0_sparedThief 45 = .ok (.goto (-36), 3) := by decide +kernel
theorem dX0_sparedThief_48 : decode cX0_sparedThief 48 = .ok (.iload_n 3, 1) := by decide +kernel
theorem dX0_sparedThief_49 : decode cX0_sparedThief 49 = .ok (.ireturn, 1) := by decide +kernel
theorem dX0_swornWithout_0 : decode cX0_swornWithout 0 = .ok (.aload_n 0, 1) := by decide +kernel
theorem dX0_swornWithout_1 : decode cX0_swornWithout 1 = .ok (.getfield 12, 3) := by decide +kernel
theorem dX0_swornWithout_4 : decode cX0_swornWithout 4 = .ok (.aload_n 1, 1) := by decide +kernel
theorem dX0_swornWithout_5 : decode cX0_swornWithout 5 = .ok (.invokevirtual 18, 3) := by decide +kernel
theorem dX0_swornWithout_8 : decode cX0_swornWithout 8 = .ok (.aload_n 0, 1) := by decide +kernel
theorem dX0_swornWithout_9 : decode cX0_swornWithout 9 = .ok (.iload_n 3, 1) := by decide +kernel
theorem dX0_swornWithout_10 : decode cX0_swornWithout 10 = .ok (.iconst 1, 1) := by decide +kernel
theorem dX0_swornWithout_11 : decode cX0_swornWithout 11 = .ok (.iload_n 2, 1) := by decide +kernel
theorem dX0_swornWithout_12 : decode cX0_swornWithout 12 = .ok (.ishl, 1) := by decide +kernel
theorem dX0_swornWithout_13 : decode cX0_swornWithout 13 = .ok (.invokevirtual 22, 3) := by decide +kernel
theorem dX0_swornWithout_16 : decode cX0_swornWithout 16 = .ok (.aload_n 0, 1) := by decide +kernel
theorem dX0_swornWithout_17 : decode cX0_swornWithout 17 = .ok (.getfield 12, 3) := by decide +kernel
theorem dX0_swornWithout_20 : decode cX0_swornWithout 20 = .ok (.getfield 30, 3) := by decide +kernel
theorem dX0_swornWithout_23 : decode cX0_swornWithout 23 = .ok (.invokestatic 49, 3) := by decide +kernel
theorem dX0_swornWithout_26 : decode cX0_swornWithout 26 = .ok (.ireturn, 1) := by decide +kernel
theorem dX0_mostCareful_0 : decode cX0_mostCareful 0 = .ok (.bipush 9, 2) := by decide +kernel
theorem dX0_mostCareful_2 : decode cX0_mostCareful 2 = .ok (.istore 4, 2) := by decide +kernel
theorem dX0_mostCareful_4 : decode cX0_mostCareful 4 = .ok (.iload 4, 2) := by decide +kernel
theorem dX0_mostCareful_6 : decode cX0_mostCareful 6 = .ok (.ifCond .lt 51, 3) := by decide +kernel
theorem dX0_mostCareful_9 : decode cX0_mostCareful 9 = .ok (.aload_n 0, 1) := by decide +kernel
theorem dX0_mostCareful_10 : decode cX0_mostCareful 10 = .ok (.getfield 12, 3) := by decide +kernel
theorem dX0_mostCareful_13 : decode cX0_mostCareful 13 = .ok (.aload_n 1, 1) := by decide +kernel
theorem dX0_mostCareful_14 : decode cX0_mostCareful 14 = .ok (.invokevirtual 18, 3) := by decide +kernel
theorem dX0_mostCareful_17 : decode cX0_mostCareful 17 = .ok (.aload_n 0, 1) := by decide +kernel
theorem dX0_mostCareful_18 : decode cX0_mostCareful 18 = .ok (.getfield 12, 3) := by decide +kernel
theorem dX0_mostCareful_21 : decode cX0_mostCareful 21 = .ok (.getfield 69, 3) := by decide +kernel
theorem dX0_mostCareful_24 : decode cX0_mostCareful 24 = .ok (.iload_n 2, 1) := by decide +kernel
theorem dX0_mostCareful_25 : decode cX0_mostCareful 25 = .ok (.iload 4, 2) := by decide +kernel
theorem dX0_mostCareful_27 : decode cX0_mostCareful 27 = .ok (.iastore, 1) := by decide +kernel
theorem dX0_mostCareful_28 : decode cX0_mostCareful 28 = .ok (.aload_n 0, 1) := by decide +kernel
theorem dX0_mostCareful_29 : decode cX0_mostCareful 29 = .ok (.iload_n 3, 1) := by decide +kernel
theorem dX0_mostCareful_30 : decode cX0_mostCareful 30 = .ok (.iconst 0, 1) := by decide +kernel
theorem dX0_mostCareful_31 : decode cX0_mostCareful 31 = .ok (.invokevirtual 22, 3) := by decide +kernel
theorem dX0_mostCareful_34 : decode cX0_mostCareful 34 = .ok (.aload_n 0, 1) := by decide +kernel
theorem dX0_mostCareful_35 : decode cX0_mostCareful 35 = .ok (.getfield 12, 3) := by decide +kernel
theorem dX0_mostCareful_38 : decode cX0_mostCareful 38 = .ok (.getfield 30, 3) := by decide +kernel
theorem dX0_mostCareful_41 : decode cX0_mostCareful 41 = .ok (.iload_n 2, 1) := by decide +kernel
theorem dX0_mostCareful_42 : decode cX0_mostCareful 42 = .ok (.invokestatic 34, 3) := by decide +kernel
theorem dX0_mostCareful_45 : decode cX0_mostCareful 45 = .ok (.ifCond .eq 6, 3) := by decide +kernel
theorem dX0_mostCareful_48 : decode cX0_mostCareful 48 = .ok (.iload 4, 2) := by decide +kernel
theorem dX0_mostCareful_50 : decode cX0_mostCareful 50 = .ok (.ireturn, 1) := by decide +kernel
theorem dX0_mostCareful_51 : decode cX0_mostCareful 51 = .ok (.iinc 4 (-1), 3) := by decide +kernel
theorem dX0_mostCareful_54 : decode cX0_mostCareful 54 = .ok (.goto (-50), 3) := by decide +kernel
theorem dX0_mostCareful_57 : decode cX0_mostCareful 57 = .ok (.bipush (-4), 2) := by decide +kernel
theorem dX0_mostCareful_59 : decode cX0_mostCareful 59 = .ok (.ireturn, 1) := by decide +kernel
theorem dX0_kindsTold_0 : decode cX0_kindsTold 0 = .ok (.iconst 0, 1) := by decide +kernel
theorem dX0_kindsTold_1 : decode cX0_kindsTold 1 = .ok (.istore 6, 2) := by decide +kernel
theorem dX0_kindsTold_3 : decode cX0_kindsTold 3 = .ok (.iconst 0, 1) := by decide +kernel
theorem dX0_kindsTold_4 : decode cX0_kindsTold 4 = .ok (.istore 7, 2) := by decide +kernel
theorem dX0_kindsTold_6 : decode cX0_kindsTold 6 = .ok (.iload 7, 2) := by decide +kernel
theorem dX0_kindsTold_8 : decode cX0_kindsTold 8 = .ok (.iconst 5, 1) := by decide +kernel
theorem dX0_kindsTold_9 : decode cX0_kindsTold 9 = .ok (.if_icmp .ge 50, 3) := by decide +kernel
theorem dX0_kindsTold_12 : decode cX0_kindsTold 12 = .ok (.aload_n 0, 1) := by decide +kernel
theorem dX0_kindsTold_13 : decode cX0_kindsTold 13 = .ok (.getfield 12, 3) := by decide +kernel
theorem dX0_kindsTold_16 : decode cX0_kindsTold 16 = .ok (.aload_n 1, 1) := by decide +kernel
theorem dX0_kindsTold_17 : decode cX0_kindsTold 17 = .ok (.invokevirtual 18, 3) := by decide +kernel
theorem dX0_kindsTold_20 : decode cX0_kindsTold 20 = .ok (.aload_n 0, 1) := by decide +kernel
theorem dX0_kindsTold_21 : decode cX0_kindsTold 21 = .ok (.getfield 12, 3) := by decide +kernel
theorem dX0_kindsTold_24 : decode cX0_kindsTold 24 = .ok (.getfield 73, 3) := by decide +kernel
theorem dX0_kindsTold_27 : decode cX0_kindsTold 27 = .ok (.iload_n 2, 1) := by decide +kernel
theorem dX0_kindsTold_28 : decode cX0_kindsTold 28 = .ok (.iload 7, 2) := by decide +kernel
theorem dX0_kindsTold_30 : decode cX0_kindsTold 30 = .ok (.iastore, 1) := by decide +kernel
theorem dX0_kindsTold_31 : decode cX0_kindsTold 31 = .ok (.aload_n 0, 1) := by decide +kernel
theorem dX0_kindsTold_32 : decode cX0_kindsTold 32 = .ok (.iload_n 2, 1) := by decide +kernel
theorem dX0_kindsTold_33 : decode cX0_kindsTold 33 = .ok (.aload_n 3, 1) := by decide +kernel
theorem dX0_kindsTold_34 : decode cX0_kindsTold 34 = .ok (.iload 4, 2) := by decide +kernel
theorem dX0_kindsTold_36 : decode cX0_kindsTold 36 = .ok (.iload 5, 2) := by decide +kernel
theorem dX0_kindsTold_38 : decode cX0_kindsTold 38 = .ok (.invokevirtual 76, 3) := by decide +kernel
theorem dX0_kindsTold_41 : decode cX0_kindsTold 41 = .ok (.ifCond .eq 12, 3) := by decide +kernel
theorem dX0_kindsTold_44 : decode cX0_kindsTold 44 = .ok (.iload 6, 2) := by decide +kernel
theorem dX0_kindsTold_46 : decode cX0_kindsTold 46 = .ok (.iconst 1, 1) := by decide +kernel
theorem dX0_kindsTold_47 : decode cX0_kindsTold 47 = .ok (.iload 7, 2) := by decide +kernel
theorem dX0_kindsTold_49 : decode cX0_kindsTold 49 = .ok (.ishl, 1) := by decide +kernel
theorem dX0_kindsTold_50 : decode cX0_kindsTold 50 = .ok (.ior, 1) := by decide +kernel
theorem dX0_kindsTold_51 : decode cX0_kindsTold 51 = .ok (.istore 6, 2) := by decide +kernel
theorem dX0_kindsTold_53 : decode cX0_kindsTold 53 = .ok (.iinc 7 1, 3) := by decide +kernel
theorem dX0_kindsTold_56 : decode cX0_kindsTold 56 = .ok (.goto (-50), 3) := by decide +kernel
theorem dX0_kindsTold_59 : decode cX0_kindsTold 59 = .ok (.iload 6, 2) := by decide +kernel
theorem dX0_kindsTold_61 : decode cX0_kindsTold 61 = .ok (.ireturn, 1) := by decide +kernel
theorem dX0_numbersTold_0 : decode cX0_numbersTold 0 = .ok (.iconst 0, 1) := by decide +kernel
theorem dX0_numbersTold_1 : decode cX0_numbersTold 1 = .ok (.istore 7, 2) := by decide +kernel
theorem dX0_numbersTold_3 : decode cX0_numbersTold 3 = .ok (.iconst 0, 1) := by decide +kernel
theorem dX0_numbersTold_4 : decode cX0_numbersTold 4 = .ok (.istore 8, 2) := by decide +kernel
theorem dX0_numbersTold_6 : decode cX0_numbersTold 6 = .ok (.iload 8, 2) := by decide +kernel
theorem dX0_numbersTold_8 : decode cX0_numbersTold 8 = .ok (.bipush 99, 2) := by decide +kernel
theorem dX0_numbersTold_10 : decode cX0_numbersTold 10 = .ok (.if_icmp .gt 52, 3) := by decide +kernel
theorem dX0_numbersTold_13 : decode cX0_numbersTold 13 = .ok (.aload_n 0, 1) := by decide +kernel
theorem dX0_numbersTold_14 : decode cX0_numbersTold 14 = .ok (.getfield 12, 3) := by decide +kernel
theorem dX0_numbersTold_17 : decode cX0_numbersTold 17 = .ok (.aload_n 1, 1) := by decide +kernel
theorem dX0_numbersTold_18 : decode cX0_numbersTold 18 = .ok (.invokevirtual 18, 3) := by decide +kernel
theorem dX0_numbersTold_21 : decode cX0_numbersTold 21 = .ok (.aload_n 0, 1) := by decide +kernel
theorem dX0_numbersTold_22 : decode cX0_numbersTold 22 = .ok (.getfield 12, 3) := by decide +kernel
theorem dX0_numbersTold_25 : decode cX0_numbersTold 25 = .ok (.getfield 80, 3) := by decide +kernel
theorem dX0_numbersTold_28 : decode cX0_numbersTold 28 = .ok (.iload_n 2, 1) := by decide +kernel
theorem dX0_numbersTold_29 : decode cX0_numbersTold 29 = .ok (.iload 8, 2) := by decide +kernel
theorem dX0_numbersTold_31 : decode cX0_numbersTold 31 = .ok (.iastore, 1) := by decide +kernel
theorem dX0_numbersTold_32 : decode cX0_numbersTold 32 = .ok (.aload_n 0, 1) := by decide +kernel
theorem dX0_numbersTold_33 : decode cX0_numbersTold 33 = .ok (.iload_n 2, 1) := by decide +kernel
theorem dX0_numbersTold_34 : decode cX0_numbersTold 34 = .ok (.aload_n 3, 1) := by decide +kernel
theorem dX0_numbersTold_35 : decode cX0_numbersTold 35 = .ok (.iload 4, 2) := by decide +kernel
theorem dX0_numbersTold_37 : decode cX0_numbersTold 37 = .ok (.iload 5, 2) := by decide +kernel
theorem dX0_numbersTold_39 : decode cX0_numbersTold 39 = .ok (.invokevirtual 76, 3) := by decide +kernel
theorem dX0_numbersTold_42 : decode cX0_numbersTold 42 = .ok (.ifCond .eq 14, 3) := by decide +kernel
theorem dX0_numbersTold_45 : decode cX0_numbersTold 45 = .ok (.iload 6, 2) := by decide +kernel
theorem dX0_numbersTold_47 : decode cX0_numbersTold 47 = .ok (.ifCond .eq 6, 3) := by decide +kernel
theorem dX0_numbersTold_50 : decode cX0_numbersTold 50 = .ok (.iload 8, 2) := by decide +kernel
theorem dX0_numbersTold_52 : decode cX0_numbersTold 52 = .ok (.ireturn, 1) := by decide +kernel
theorem dX0_numbersTold_53 : decode cX0_numbersTold 53 = .ok (.iinc 7 1, 3) := by decide +kernel
theorem dX0_numbersTold_56 : decode cX0_numbersTold 56 = .ok (.iinc 8 1, 3) := by decide +kernel
theorem dX0_numbersTold_59 : decode cX0_numbersTold 59 = .ok (.goto (-53), 3) := by decide +kernel
theorem dX0_numbersTold_62 : decode cX0_numbersTold 62 = .ok (.iload 6, 2) := by decide +kernel
theorem dX0_numbersTold_64 : decode cX0_numbersTold 64 = .ok (.ifCond .eq 8, 3) := by decide +kernel
theorem dX0_numbersTold_67 : decode cX0_numbersTold 67 = .ok (.bipush (-4), 2) := by decide +kernel
theorem dX0_numbersTold_69 : decode cX0_numbersTold 69 = .ok (.goto 5, 3) := by decide +kernel
theorem dX0_numbersTold_72 : decode cX0_numbersTold 72 = .ok (.iload 7, 2) := by decide +kernel
theorem dX0_numbersTold_74 : decode cX0_numbersTold 74 = .ok (.ireturn, 1) := by decide +kernel
theorem dX0_goesAsTold_0 : decode cX0_goesAsTold 0 = .ok (.iconst 0, 1) := by decide +kernel
theorem dX0_goesAsTold_1 : decode cX0_goesAsTold 1 = .ok (.istore 5, 2) := by decide +kernel
theorem dX0_goesAsTold_3 : decode cX0_goesAsTold 3 = .ok (.iload 5, 2) := by decide +kernel
theorem dX0_goesAsTold_5 : decode cX0_goesAsTold 5 = .ok (.iload 4, 2) := by decide +kernel
theorem dX0_goesAsTold_7 : decode cX0_goesAsTold 7 = .ok (.if_icmp .ge 42, 3) := by decide +kernel
theorem dX0_goesAsTold_10 : decode cX0_goesAsTold 10 = .ok (.aload_n 0, 1) := by decide +kernel
theorem dX0_goesAsTold_11 : decode cX0_goesAsTold 11 = .ok (.getfield 12, 3) := by decide +kernel
theorem dX0_goesAsTold_14 : decode cX0_goesAsTold 14 = .ok (.iconst 0, 1) := by decide +kernel
theorem dX0_goesAsTold_15 : decode cX0_goesAsTold 15 = .ok (.invokevirtual 26, 3) := by decide +kernel
theorem dX0_goesAsTold_18 : decode cX0_goesAsTold 18 = .ok (.aload_n 2, 1) := by decide +kernel
theorem dX0_goesAsTold_19 : decode cX0_goesAsTold 19 = .ok (.getfield 83, 3) := by decide +kernel
theorem dX0_goesAsTold_22 : decode cX0_goesAsTold 22 = .ok (.iload_n 3, 1) := by decide +kernel
theorem dX0_goesAsTold_23 : decode cX0_goesAsTold 23 = .ok (.iload 5, 2) := by decide +kernel
theorem dX0_goesAsTold_25 : decode cX0_goesAsTold 25 = .ok (.iadd, 1) := by decide +kernel
theorem dX0_goesAsTold_26 : decode cX0_goesAsTold 26 = .ok (.laload, 1) := by decide +kernel
theorem dX0_goesAsTold_27 : decode cX0_goesAsTold 27 = .ok (.aload_n 0, 1) := by decide +kernel
theorem dX0_goesAsTold_28 : decode cX0_goesAsTold 28 = .ok (.getfield 12, 3) := by decide +kernel
theorem dX0_goesAsTold_31 : decode cX0_goesAsTold 31 = .ok (.getfield 80, 3) := by decide +kernel
theorem dX0_goesAsTold_34 : decode cX0_goesAsTold 34 = .ok (.iload_n 1, 1) := by decide +kernel
theorem dX0_goesAsTold_35 : decode cX0_goesAsTold 35 = .ok (.iaload, 1) := by decide +kernel
theorem dX0_goesAsTold_36 : decode cX0_goesAsTold 36 = .ok (.i2l, 1) := by decide +kernel
theorem dX0_goesAsTold_37 : decode cX0_goesAsTold 37 = .ok (.lcmp, 1) := by decide +kernel
theorem dX0_goesAsTold_38 : decode cX0_goesAsTold 38 = .ok (.ifCond .eq 5, 3) := by decide +kernel
theorem dX0_goesAsTold_41 : decode cX0_goesAsTold 41 = .ok (.iconst 0, 1) := by decide +kernel
theorem dX0_goesAsTold_42 : decode cX0_goesAsTold 42 = .ok (.ireturn, 1) := by decide +kernel
theorem dX0_goesAsTold_43 : decode cX0_goesAsTold 43 = .ok (.iinc 5 1, 3) := by decide +kernel
theorem dX0_goesAsTold_46 : decode cX0_goesAsTold 46 = .ok (.goto (-43), 3) := by decide +kernel
theorem dX0_goesAsTold_49 : decode cX0_goesAsTold 49 = .ok (.iconst 1, 1) := by decide +kernel
theorem dX0_goesAsTold_50 : decode cX0_goesAsTold 50 = .ok (.ireturn, 1) := by decide +kernel
theorem dX0_tell_0 : decode cX0_tell 0 = .ok (.aload_n 0, 1) := by decide +kernel
theorem dX0_tell_1 : decode cX0_tell 1 = .ok (.getfield 12, 3) := by decide +kernel
theorem dX0_tell_4 : decode cX0_tell 4 = .ok (.aload_n 1, 1) := by decide +kernel
theorem dX0_tell_5 : decode cX0_tell 5 = .ok (.invokevirtual 18, 3) := by decide +kernel
theorem dX0_tell_8 : decode cX0_tell 8 = .ok (.iconst 0, 1) := by decide +kernel
theorem dX0_tell_9 : decode cX0_tell 9 = .ok (.istore 6, 2) := by decide +kernel
theorem dX0_tell_11 : decode cX0_tell 11 = .ok (.iload 6, 2) := by decide +kernel
theorem dX0_tell_13 : decode cX0_tell 13 = .ok (.iload 5, 2) := by decide +kernel
theorem dX0_tell_15 : decode cX0_tell 15 = .ok (.if_icmp .ge 36, 3) := by decide +kernel
theorem dX0_tell_18 : decode cX0_tell 18 = .ok (.aload_n 0, 1) := by decide +kernel
theorem dX0_tell_19 : decode cX0_tell 19 = .ok (.getfield 12, 3) := by decide +kernel
theorem dX0_tell_22 : decode cX0_tell 22 = .ok (.iconst 0, 1) := by decide +kernel
theorem dX0_tell_23 : decode cX0_tell 23 = .ok (.invokevirtual 26, 3) := by decide +kernel
theorem dX0_tell_26 : decode cX0_tell 26 = .ok (.aload_n 3, 1) := by decide +kernel
theorem dX0_tell_27 : decode cX0_tell 27 = .ok (.iload 4, 2) := by decide +kernel
theorem dX0_tell_29 : decode cX0_tell 29 = .ok (.iload 6, 2) := by decide +kernel
theorem dX0_tell_31 : decode cX0_tell 31 = .ok (.iadd, 1) := by decide +kernel
theorem dX0_tell_32 : decode cX0_tell 32 = .ok (.aload_n 0, 1) := by decide +kernel
theorem dX0_tell_33 : decode cX0_tell 33 = .ok (.getfield 12, 3) := by decide +kernel
theorem dX0_tell_36 : decode cX0_tell 36 = .ok (.getfield 80, 3) := by decide +kernel
theorem dX0_tell_39 : decode cX0_tell 39 = .ok (.iload_n 2, 1) := by decide +kernel
theorem dX0_tell_40 : decode cX0_tell 40 = .ok (.iaload, 1) := by decide +kernel
theorem dX0_tell_41 : decode cX0_tell 41 = .ok (.i2l, 1) := by decide +kernel
theorem dX0_tell_42 : decode cX0_tell 42 = .ok (.invokevirtual 89, 3) := by decide +kernel
theorem dX0_tell_45 : decode cX0_tell 45 = .ok (.iinc 6 1, 3) := by decide +kernel
theorem dX0_tell_48 : decode cX0_tell 48 = .ok (.goto (-37), 3) := by decide +kernel
theorem dX0_tell_51 : decode cX0_tell 51 = .ok (.return_, 1) := by decide +kernel
theorem dX1_init_0 : decode cX1_init 0 = .ok (.aload_n 0, 1) := by decide +kernel
theorem dX1_init_1 : decode cX1_init 1 = .ok (.invokespecial 3, 3) := by decide +kernel
theorem dX1_init_4 : decode cX1_init 4 = .ok (.aload_n 0, 1) := by decide +kernel
theorem dX1_init_5 : decode cX1_init 5 = .ok (.bipush 8, 2) := by decide +kernel
theorem dX1_init_7 : decode cX1_init 7 = .ok (.anewarray 9, 3) := by decide +kernel
theorem dX1_init_10 : decode cX1_init 10 = .ok (.putfield 11, 3) := by decide +kernel
theorem dX1_init_13 : decode cX1_init 13 = .ok (.iconst 0, 1) := by decide +kernel
theorem dX1_init_14 : decode cX1_init 14 = .ok (.istore_n 1, 1) := by decide +kernel
theorem dX1_init_15 : decode cX1_init 15 = .ok (.iload_n 1, 1) := by decide +kernel
theorem dX1_init_16 : decode cX1_init 16 = .ok (.bipush 8, 2) := by decide +kernel
theorem dX1_init_18 : decode cX1_init 18 = .ok (.if_icmp .ge 22, 3) := by decide +kernel
theorem dX1_init_21 : decode cX1_init 21 = .ok (.aload_n 0, 1) := by decide +kernel
theorem dX1_init_22 : decode cX1_init 22 = .ok (.getfield 11, 3) := by decide +kernel
theorem dX1_init_25 : decode cX1_init 25 = .ok (.iload_n 1, 1) := by decide +kernel
theorem dX1_init_26 : decode cX1_init 26 = .ok (.new 9, 3) := by decide +kernel
theorem dX1_init_29 : decode cX1_init 29 = .ok (.dup, 1) := by decide +kernel
theorem dX1_init_30 : decode cX1_init 30 = .ok (.invokespecial 17, 3) := by decide +kernel
theorem dX1_init_33 : decode cX1_init 33 = .ok (.aastore, 1) := by decide +kernel
theorem dX1_init_34 : decode cX1_init 34 = .ok (.iinc 1 1, 3) := by decide +kernel
theorem dX1_init_37 : decode cX1_init 37 = .ok (.goto (-22), 3) := by decide +kernel
theorem dX1_init_40 : decode cX1_init 40 = .ok (.return_, 1) := by decide +kernel
theorem dX1_keep_0 : decode cX1_keep 0 = .ok (.aload_n 0, 1) := by decide +kernel
theorem dX1_keep_1 : decode cX1_keep 1 = .ok (.getfield 11, 3) := by decide +kernel
theorem dX1_keep_4 : decode cX1_keep 4 = .ok (.aload_n 0, 1) := by decide +kernel
theorem dX1_keep_5 : decode cX1_keep 5 = .ok (.getfield 18, 3) := by decide +kernel
theorem dX1_keep_8 : decode cX1_keep 8 = .ok (.aaload, 1) := by decide +kernel
theorem dX1_keep_9 : decode cX1_keep 9 = .ok (.aload_n 1, 1) := by decide +kernel
theorem dX1_keep_10 : decode cX1_keep 10 = .ok (.invokevirtual 22, 3) := by decide +kernel
theorem dX1_keep_13 : decode cX1_keep 13 = .ok (.aload_n 0, 1) := by decide +kernel
theorem dX1_keep_14 : decode cX1_keep 14 = .ok (.aload_n 0, 1) := by decide +kernel
theorem dX1_keep_15 : decode cX1_keep 15 = .ok (.getfield 18, 3) := by decide +kernel
theorem dX1_keep_18 : decode cX1_keep 18 = .ok (.iconst 1, 1) := by decide +kernel
theorem dX1_keep_19 : decode cX1_keep 19 = .ok (.iadd, 1) := by decide +kernel
theorem dX1_keep_20 : decode cX1_keep 20 = .ok (.bipush 8, 2) := by decide +kernel
theorem dX1_keep_22 : decode cX1_keep 22 = .ok (.irem, 1) := by decide +kernel
theorem dX1_keep_23 : decode cX1_keep 23 = .ok (.putfield 18, 3) := by decide +kernel
theorem dX1_keep_26 : decode cX1_keep 26 = .ok (.aload_n 0, 1) := by decide +kernel
theorem dX1_keep_27 : decode cX1_keep 27 = .ok (.bipush 8, 2) := by decide +kernel
theorem dX1_keep_29 : decode cX1_keep 29 = .ok (.aload_n 0, 1) := by decide +kernel
theorem dX1_keep_30 : decode cX1_keep 30 = .ok (.getfield 26, 3) := by decide +kernel
theorem dX1_keep_33 : decode cX1_keep 33 = .ok (.iconst 1, 1) := by decide +kernel
theorem dX1_keep_34 : decode cX1_keep 34 = .ok (.iadd, 1) := by decide +kernel
theorem dX1_keep_35 : decode cX1_keep 35 = .ok (.invokestatic 29, 3) := by decide +kernel
theorem dX1_keep_38 : decode cX1_keep 38 = .ok (.putfield 26, 3) := by decide +kernel
theorem dX1_keep_41 : decode cX1_keep 41 = .ok (.return_, 1) := by decide +kernel
theorem dX1_takeBack_0 : decode cX1_takeBack 0 = .ok (.aload_n 0, 1) := by decide +kernel
theorem dX1_takeBack_1 : decode cX1_takeBack 1 = .ok (.getfield 26, 3) := by decide +kernel
theorem dX1_takeBack_4 : decode cX1_takeBack 4 = .ok (.ifCond .le 52, 3) := by decide +kernel
theorem dX1_takeBack_7 : decode cX1_takeBack 7 = .ok (.aload_n 0, 1) := by decide +kernel
theorem dX1_takeBack_8 : decode cX1_takeBack 8 = .ok (.aload_n 0, 1) := by decide +kernel
theorem dX1_takeBack_9 : decode cX1_takeBack 9 = .ok (.getfield 18, 3) := by decide +kernel
theorem dX1_takeBack_12 : decode cX1_takeBack 12 = .ok (.bipush 8, 2) := by decide +kernel
theorem dX1_takeBack_14 : decode cX1_takeBack 14 = .ok (.iadd, 1) := by decide +kernel
theorem dX1_takeBack_15 : decode cX1_takeBack 15 = .ok (.iconst 1, 1) := by decide +kernel
theorem dX1_takeBack_16 : decode cX1_takeBack 16 = .ok (.isub, 1) := by decide +kernel
theorem dX1_takeBack_17 : decode cX1_takeBack 17 = .ok (.bipush 8, 2) := by decide +kernel
theorem dX1_takeBack_19 : decode cX1_takeBack 19 = .ok (.irem, 1) := by decide +kernel
theorem dX1_takeBack_20 : decode cX1_takeBack 20 = .ok (.putfield 18, 3) := by decide +kernel
theorem dX1_takeBack_23 : decode cX1_takeBack 23 = .ok (.aload_n 0, 1) := by decide +kernel
theorem dX1_takeBack_24 : decode cX1_takeBack 24 = .ok (.dup, 1) := by decide +kernel
theorem dX1_takeBack_25 : decode cX1_takeBack 25 = .ok (.getfield 26, 3) := by decide +kernel
theorem dX1_takeBack_28 : decode cX1_takeBack 28 = .ok (.iconst 1, 1) := by decide +kernel
theorem dX1_takeBack_29 : decode cX1_takeBack 29 = .ok (.isub, 1) := by decide +kernel
theorem dX1_takeBack_30 : decode cX1_takeBack 30 = .ok (.putfield 26, 3) := by decide +kernel
theorem dX1_takeBack_33 : decode cX1_takeBack 33 = .ok (.aload_n 1, 1) := by decide +kernel
theorem dX1_takeBack_34 : decode cX1_takeBack 34 = .ok (.getfield 35, 3) := by decide +kernel
theorem dX1_takeBack_37 : decode cX1_takeBack 37 = .ok (.istore_n 2, 1) := by decide +kernel
theorem dX1_takeBack_38 : decode cX1_takeBack 38 = .ok (.aload_n 1, 1) := by decide +kernel
theorem dX1_takeBack_39 : decode cX1_takeBack 39 = .ok (.aload_n 0, 1) := by decide +kernel
theorem dX1_takeBack_40 : decode cX1_takeBack 40 = .ok (.getfield 11, 3) := by decide +kernel
theorem dX1_takeBack_43 : decode cX1_takeBack 43 = .ok (.aload_n 0, 1) := by decide +kernel
theorem dX1_takeBack_44 : decode cX1_takeBack 44 = .ok (.getfield 18, 3) := by decide +kernel
theorem dX1_takeBack_47 : decode cX1_takeBack 47 = .ok (.aaload, 1) := by decide +kernel
theorem dX1_takeBack_48 : decode cX1_takeBack 48 = .ok (.invokevirtual 22, 3) := by decide +kernel
theorem dX1_takeBack_51 : decode cX1_takeBack 51 = .ok (.aload_n 1, 1) := by decide +kernel
theorem dX1_takeBack_52 : decode cX1_takeBack 52 = .ok (.iload_n 2, 1) := by decide +kernel
theorem dX1_takeBack_53 : decode cX1_takeBack 53 = .ok (.putfield 35, 3) := by decide +kernel
theorem dX1_takeBack_56 : decode cX1_takeBack 56 = .ok (.return_, 1) := by decide +kernel
theorem dX1_forget_0 : decode cX1_forget 0 = .ok (.aload_n 0, 1) := by decide +kernel
theorem dX1_forget_1 : decode cX1_forget 1 = .ok (.iconst 0, 1) := by decide +kernel
theorem dX1_forget_2 : decode cX1_forget 2 = .ok (.putfield 26, 3) := by decide +kernel
theorem dX1_forget_5 : decode cX1_forget 5 = .ok (.return_, 1) := by decide +kernel
theorem dX1_become_0 : decode cX1_become 0 = .ok (.iconst 0, 1) := by decide +kernel
theorem dX1_become_1 : decode cX1_become 1 = .ok (.istore_n 2, 1) := by decide +kernel
theorem dX1_become_2 : decode cX1_become 2 = .ok (.iload_n 2, 1) := by decide +kernel
theorem dX1_become_3 : decode cX1_become 3 = .ok (.bipush 8, 2) := by decide +kernel
theorem dX1_become_5 : decode cX1_become 5 = .ok (.if_icmp .ge 24, 3) := by decide +kernel
theorem dX1_become_8 : decode cX1_become 8 = .ok (.aload_n 0, 1) := by decide +kernel
theorem dX1_become_9 : decode cX1_become 9 = .ok (.getfield 11, 3) := by decide +kernel
theorem dX1_become_12 : decode cX1_become 12 = .ok (.iload_n 2, 1) := by decide +kernel
theorem dX1_become_13 : decode cX1_become 13 = .ok (.aaload, 1) := by decide +kernel
theorem dX1_become_14 : decode cX1_become 14 = .ok (.aload_n 1, 1) := by decide +kernel
theorem dX1_become_15 : decode cX1_become 15 = .ok (.getfield 11, 3) := by decide +kernel
theorem dX1_become_18 : decode cX1_become 18 = .ok (.iload_n 2, 1) := by decide +kernel
theorem dX1_become_19 : decode cX1_become 19 = .ok (.aaload, 1) := by decide +kernel
theorem dX1_become_20 : decode cX1_become 20 = .ok (.invokevirtual 22, 3) := by decide +kernel
theorem dX1_become_23 : decode cX1_become 23 = .ok (.iinc 2 1, 3) := by decide +kernel
theorem dX1_become_26 : decode cX1_become 26 = .ok (.goto (-24), 3) := by decide +kernel
theorem dX1_become_29 : decode cX1_become 29 = .ok (.aload_n 0, 1) := by decide +kernel
theorem dX1_become_30 : decode cX1_become 30 = .ok (.aload_n 1, 1) := by decide +kernel
theorem dX1_become_31 : decode cX1_become 31 = .ok (.getfield 18, 3) := by decide +kernel
theorem dX1_become_34 : decode cX1_become 34 = .ok (.putfield 18, 3) := by decide +kernel
theorem dX1_become_37 : decode cX1_become 37 = .ok (.aload_n 0, 1) := by decide +kernel
theorem dX1_become_38 : decode cX1_become 38 = .ok (.aload_n 1, 1) := by decide +kernel
theorem dX1_become_39 : decode cX1_become 39 = .ok (.getfield 26, 3) := by decide +kernel
theorem dX1_become_42 : decode cX1_become 42 = .ok (.putfield 26, 3) := by decide +kernel
theorem dX1_become_45 : decode cX1_become 45 = .ok (.return_, 1) := by decide +kernel
theorem dX2_init_0 : decode cX2_init 0 = .ok (.aload_n 0, 1) := by decide +kernel
theorem dX2_init_1 : decode cX2_init 1 = .ok (.invokespecial 3, 3) := by decide +kernel
theorem dX2_init_4 : decode cX2_init 4 = .ok (.aload_n 0, 1) := by decide +kernel
theorem dX2_init_5 : decode cX2_init 5 = .ok (.bipush 24, 2) := by decide +kernel
theorem dX2_init_7 : decode cX2_init 7 = .ok (.newarray .long, 2) := by decide +kernel
theorem dX2_init_9 : decode cX2_init 9 = .ok (.putfield 9, 3) := by decide +kernel
theorem dX2_init_12 : decode cX2_init 12 = .ok (.aload_n 0, 1) := by decide +kernel
theorem dX2_init_13 : decode cX2_init 13 = .ok (.iconst (-1), 1) := by decide +kernel
theorem dX2_init_14 : decode cX2_init 14 = .ok (.putfield 15, 3) := by decide +kernel
theorem dX2_init_17 : decode cX2_init 17 = .ok (.return_, 1) := by decide +kernel
theorem dX2_begin_0 : decode cX2_begin 0 = .ok (.iconst 0, 1) := by decide +kernel
theorem dX2_begin_1 : decode cX2_begin 1 = .ok (.istore_n 3, 1) := by decide +kernel
theorem dX2_begin_2 : decode cX2_begin 2 = .ok (.iload_n 3, 1) := by decide +kernel
theorem dX2_begin_3 : decode cX2_begin 3 = .ok (.bipush 24, 2) := by decide +kernel
theorem dX2_begin_5 : decode cX2_begin 5 = .ok (.if_icmp .ge 16, 3) := by decide +kernel
theorem dX2_begin_8 : decode cX2_begin 8 = .ok (.aload_n 0, 1) := by decide +kernel
theorem dX2_begin_9 : decode cX2_begin 9 = .ok (.getfield 9, 3) := by decide +kernel
theorem dX2_begin_12 : decode cX2_begin 12 = .ok (.iload_n 3, 1) := by decide +kernel
theorem dX2_begin_13 : decode cX2_begin 13 = .ok (.lconst 0, 1) := by decide +kernel
theorem dX2_begin_14 : decode cX2_begin 14 = .ok (.lastore, 1) := by decide +kernel
theorem dX2_begin_15 : decode cX2_begin 15 = .ok (.iinc 3 1, 3) := by decide +kernel
theorem dX2_begin_18 : decode cX2_begin 18 = .ok (.goto (-16), 3) := by decide +kernel
theorem dX2_begin_21 : decode cX2_begin 21 = .ok (.aload_n 0, 1) := by decide +kernel
theorem dX2_begin_22 : decode cX2_begin 22 = .ok (.iload_n 1, 1) := by decide +kernel
theorem dX2_begin_23 : decode cX2_begin 23 = .ok (.putfield 15, 3) := by decide +kernel
theorem dX2_begin_26 : decode cX2_begin 26 = .ok (.aload_n 0, 1) := by decide +kernel
theorem dX2_begin_27 : decode cX2_begin 27 = .ok (.iload_n 2, 1) := by decide +kernel
theorem dX2_begin_28 : decode cX2_begin 28 = .ok (.putfield 19, 3) := by decide +kernel
theorem dX2_begin_31 : decode cX2_begin 31 = .ok (.return_, 1) := by decide +kernel
theorem dX2_end_0 : decode cX2_end 0 = .ok (.aload_n 0, 1) := by decide +kernel
theorem dX2_end_1 : decode cX2_end 1 = .ok (.iconst (-1), 1) := by decide +kernel
theorem dX2_end_2 : decode cX2_end 2 = .ok (.putfield 15, 3) := by decide +kernel
theorem dX2_end_5 : decode cX2_end 5 = .ok (.aload_n 0, 1) := by decide +kernel
theorem dX2_end_6 : decode cX2_end 6 = .ok (.iconst 0, 1) := by decide +kernel
theorem dX2_end_7 : decode cX2_end 7 = .ok (.putfield 19, 3) := by decide +kernel
theorem dX2_end_10 : decode cX2_end 10 = .ok (.return_, 1) := by decide +kernel
theorem dX2_holds_0 : decode cX2_holds 0 = .ok (.iload_n 1, 1) := by decide +kernel
theorem dX2_holds_1 : decode cX2_holds 1 = .ok (.ifCond .lt 21, 3) := by decide +kernel
theorem dX2_holds_4 : decode cX2_holds 4 = .ok (.iload_n 2, 1) := by decide +kernel
theorem dX2_holds_5 : decode cX2_holds 5 = .ok (.ifCond .lt 17, 3) := by decide +kernel
theorem dX2_holds_8 : decode cX2_holds 8 = .ok (.iload_n 1, 1) := by decide +kernel
theorem dX2_holds_9 : decode cX2_holds 9 = .ok (.aload_n 0, 1) := by decide +kernel
theorem dX2_holds_10 : decode cX2_holds 10 = .ok (.getfield 19, 3) := by decide +kernel
theorem dX2_holds_13 : decode cX2_holds 13 = .ok (.iload_n 2, 1) := by decide +kernel
theorem dX2_holds_14 : decode cX2_holds 14 = .ok (.isub, 1) := by decide +kernel
theorem dX2_holds_15 : decode cX2_holds 15 = .ok (.if_icmp .gt 7, 3) := by decide +kernel
theorem dX2_holds_18 : decode cX2_holds 18 = .ok (.iconst 1, 1) := by decide +kernel
theorem dX2_holds_19 : decode cX2_holds 19 = .ok (.goto 4, 3) := by decide +kernel
theorem dX2_holds_22 : decode cX2_holds 22 = .ok (.iconst 0, 1) := by decide +kernel
theorem dX2_holds_23 : decode cX2_holds 23 = .ok (.ireturn, 1) := by decide +kernel
theorem dX2_refusal_0 : decode cX2_refusal 0 = .ok (.aload_n 0, 1) := by decide +kernel
theorem dX2_refusal_1 : decode cX2_refusal 1 = .ok (.getfield 15, 3) := by decide +kernel
theorem dX2_refusal_4 : decode cX2_refusal 4 = .ok (.iconst (-1), 1) := by decide +kernel
theorem dX2_refusal_5 : decode cX2_refusal 5 = .ok (.if_icmp .ne 6, 3) := by decide +kernel
theorem dX2_refusal_8 : decode cX2_refusal 8 = .ok (.bipush (-11), 2) := by decide +kernel
theorem dX2_refusal_10 : decode cX2_refusal 10 = .ok (.ireturn, 1) := by decide +kernel
theorem dX2_refusal_11 : decode cX2_refusal 11 = .ok (.aload_n 0, 1) := by decide +kernel
theorem dX2_refusal_12 : decode cX2_refusal 12 = .ok (.getfield 15, 3) := by decide +kernel
theorem dX2_refusal_15 : decode cX2_refusal 15 = .ok (.iload_n 1, 1) := by decide +kernel
theorem dX2_refusal_16 : decode cX2_refusal 16 = .ok (.if_icmp .eq 6, 3) := by decide +kernel
theorem dX2_refusal_19 : decode cX2_refusal 19 = .ok (.bipush (-12), 2) := by decide +kernel
theorem dX2_refusal_21 : decode cX2_refusal 21 = .ok (.ireturn, 1) := by decide +kernel
theorem dX2_refusal_22 : decode cX2_refusal 22 = .ok (.aload_n 0, 1) := by decide +kernel
theorem dX2_refusal_23 : decode cX2_refusal 23 = .ok (.iload_n 2, 1) := by decide +kernel
theorem dX2_refusal_24 : decode cX2_refusal 24 = .ok (.iload_n 3, 1) := by decide +kernel
theorem dX2_refusal_25 : decode cX2_refusal 25 = .ok (.invokevirtual 22, 3) := by decide +kernel
theorem dX2_refusal_28 : decode cX2_refusal 28 = .ok (.ifCond .eq 7, 3) := by decide +kernel
theorem dX2_refusal_31 : decode cX2_refusal 31 = .ok (.iconst 0, 1) := by decide +kernel
theorem dX2_refusal_32 : decode cX2_refusal 32 = .ok (.goto 5, 3) := by decide +kernel
theorem dX2_refusal_35 : decode cX2_refusal 35 = .ok (.bipush (-13), 2) := by decide +kernel
theorem dX2_refusal_37 : decode cX2_refusal 37 = .ok (.ireturn, 1) := by decide +kernel
theorem dX2_put_0 : decode cX2_put 0 = .ok (.aload_n 0, 1) := by decide +kernel
theorem dX2_put_1 : decode cX2_put 1 = .ok (.getfield 15, 3) := by decide +kernel
theorem dX2_put_4 : decode cX2_put 4 = .ok (.tableswitch 66 0 2 #[28, 41, 54], 28) := by decide +kernel
theorem dX2_put_32 : decode cX2_put 32 = .ok (.aload_n 0, 1) := by decide +kernel
theorem dX2_put_33 : decode cX2_put 33 = .ok (.getfield 9, 3) := by decide +kernel
theorem dX2_put_36 : decode cX2_put 36 = .ok (.iload_n 1, 1) := by decide +kernel
theorem dX2_put_37 : decode cX2_put 37 = .ok (.lload_n 2, 1) := by decide +kernel
theorem dX2_put_38 : decode cX2_put 38 = .ok (.l2i, 1) := by decide +kernel
theorem dX2_put_39 : decode cX2_put 39 = .ok (.i2b, 1) := by decide +kernel
theorem dX2_put_40 : decode cX2_put 40 = .ok (.i2l, 1) := by decide +kernel
theorem dX2_put_41 : decode cX2_put 41 = .ok (.lastore, 1) := by decide +kernel
theorem dX2_put_42 : decode cX2_put 42 = .ok (.goto 35, 3) := by decide +kernel
theorem dX2_put_45 : decode cX2_put 45 = .ok (.aload_n 0, 1) := by decide +kernel
theorem dX2_put_46 : decode cX2_put 46 = .ok (.getfield 9, 3) := by decide +kernel
theorem dX2_put_49 : decode cX2_put 49 = .ok (.iload_n 1, 1) := by decide +kernel
theorem dX2_put_50 : decode cX2_put 50 = .ok (.lload_n 2, 1) := by decide +kernel
theorem dX2_put_51 : decode cX2_put 51 = .ok (.l2i, 1) := by decide +kernel
theorem dX2_put_52 : decode cX2_put 52 = .ok (.i2s, 1) := by decide +kernel
theorem dX2_put_53 : decode cX2_put 53 = .ok (.i2l, 1) := by decide +kernel
theorem dX2_put_54 : decode cX2_put 54 = .ok (.lastore, 1) := by decide +kernel
theorem dX2_put_55 : decode cX2_put 55 = .ok (.goto 22, 3) := by decide +kernel
theorem dX2_put_58 : decode cX2_put 58 = .ok (.aload_n 0, 1) := by decide +kernel
theorem dX2_put_59 : decode cX2_put 59 = .ok (.getfield 9, 3) := by decide +kernel
theorem dX2_put_62 : decode cX2_put 62 = .ok (.iload_n 1, 1) := by decide +kernel
theorem dX2_put_63 : decode cX2_put 63 = .ok (.lload_n 2, 1) := by decide +kernel
theorem dX2_put_64 : decode cX2_put 64 = .ok (.l2i, 1) := by decide +kernel
theorem dX2_put_65 : decode cX2_put 65 = .ok (.i2l, 1) := by decide +kernel
theorem dX2_put_66 : decode cX2_put 66 = .ok (.lastore, 1) := by decide +kernel
theorem dX2_put_67 : decode cX2_put 67 = .ok (.goto 10, 3) := by decide +kernel
theorem dX2_put_70 : decode cX2_put 70 = .ok (.aload_n 0, 1) := by decide +kernel
theorem dX2_put_71 : decode cX2_put 71 = .ok (.getfield 9, 3) := by decide +kernel
theorem dX2_put_74 : decode cX2_put 74 = .ok (.iload_n 1, 1) := by decide +kernel
theorem dX2_put_75 : decode cX2_put 75 = .ok (.lload_n 2, 1) := by decide +kernel
theorem dX2_put_76 : decode cX2_put 76 = .ok (.lastore, 1) := by decide +kernel
theorem dX2_put_77 : decode cX2_put 77 = .ok (.return_, 1) := by decide +kernel
theorem dX3_init_0 : decode cX3_init 0 = .ok (.aload_n 0, 1) := by decide +kernel
theorem dX3_init_1 : decode cX3_init 1 = .ok (.invokespecial 3, 3) := by decide +kernel
theorem dX3_init_4 : decode cX3_init 4 = .ok (.aload_n 0, 1) := by decide +kernel
theorem dX3_init_5 : decode cX3_init 5 = .ok (.bipush 80, 2) := by decide +kernel
theorem dX3_init_7 : decode cX3_init 7 = .ok (.newarray .char, 2) := by decide +kernel
theorem dX3_init_9 : decode cX3_init 9 = .ok (.putfield 9, 3) := by decide +kernel
theorem dX3_init_12 : decode cX3_init 12 = .ok (.return_, 1) := by decide +kernel
theorem dX3_add_0 : decode cX3_add 0 = .ok (.aload_n 0, 1) := by decide +kernel
theorem dX3_add_1 : decode cX3_add 1 = .ok (.getfield 15, 3) := by decide +kernel
theorem dX3_add_4 : decode cX3_add 4 = .ok (.bipush 80, 2) := by decide +kernel
theorem dX3_add_6 : decode cX3_add 6 = .ok (.if_icmp .ge 24, 3) := by decide +kernel
theorem dX3_add_9 : decode cX3_add 9 = .ok (.aload_n 0, 1) := by decide +kernel
theorem dX3_add_10 : decode cX3_add 10 = .ok (.getfield 9, 3) := by decide +kernel
theorem dX3_add_13 : decode cX3_add 13 = .ok (.aload_n 0, 1) := by decide +kernel
theorem dX3_add_14 : decode cX3_add 14 = .ok (.getfield 15, 3) := by decide +kernel
theorem dX3_add_17 : decode cX3_add 17 = .ok (.iload_n 1, 1) := by decide +kernel
theorem dX3_add_18 : decode cX3_add 18 = .ok (.i2c, 1) := by decide +kernel
theorem dX3_add_19 : decode cX3_add 19 = .ok (.castore, 1) := by decide +kernel
theorem dX3_add_20 : decode cX3_add 20 = .ok (.aload_n 0, 1) := by decide +kernel
theorem dX3_add_21 : decode cX3_add 21 = .ok (.dup, 1) := by decide +kernel
theorem dX3_add_22 : decode cX3_add 22 = .ok (.getfield 15, 3) := by decide +kernel
theorem dX3_add_25 : decode cX3_add 25 = .ok (.iconst 1, 1) := by decide +kernel
theorem dX3_add_26 : decode cX3_add 26 = .ok (.iadd, 1) := by decide +kernel
theorem dX3_add_27 : decode cX3_add 27 = .ok (.putfield 15, 3) := by decide +kernel
theorem dX3_add_30 : decode cX3_add 30 = .ok (.aload_n 0, 1) := by decide +kernel
theorem dX3_add_31 : decode cX3_add 31 = .ok (.getfield 15, 3) := by decide +kernel
theorem dX3_add_34 : decode cX3_add 34 = .ok (.ireturn, 1) := by decide +kernel
theorem dX3_clear_0 : decode cX3_clear 0 = .ok (.aload_n 0, 1) := by decide +kernel
theorem dX3_clear_1 : decode cX3_clear 1 = .ok (.iconst 0, 1) := by decide +kernel
theorem dX3_clear_2 : decode cX3_clear 2 = .ok (.putfield 15, 3) := by decide +kernel
theorem dX3_clear_5 : decode cX3_clear 5 = .ok (.return_, 1) := by decide +kernel
theorem dX3_readTown_0 : decode cX3_readTown 0 = .ok (.aload_n 0, 1) := by decide +kernel
theorem dX3_readTown_1 : decode cX3_readTown 1 = .ok (.iconst 0, 1) := by decide +kernel
theorem dX3_readTown_2 : decode cX3_readTown 2 = .ok (.putfield 19, 3) := by decide +kernel
theorem dX3_readTown_5 : decode cX3_readTown 5 = .ok (.aload_n 1, 1) := by decide +kernel
theorem dX3_readTown_6 : decode cX3_readTown 6 = .ok (.invokevirtual 22, 3) := by decide +kernel
theorem dX3_readTown_9 : decode cX3_readTown 9 = .ok (.aload_n 0, 1) := by decide +kernel
theorem dX3_readTown_10 : decode cX3_readTown 10 = .ok (.invokevirtual 27, 3) := by decide +kernel
theorem dX3_readTown_13 : decode cX3_readTown 13 = .ok (.istore_n 2, 1) := by decide +kernel
theorem dX3_readTown_14 : decode cX3_readTown 14 = .ok (.iload_n 2, 1) := by decide +kernel
theorem dX3_readTown_15 : decode cX3_readTown 15 = .ok (.ifCond .lt 12, 3) := by decide +kernel
theorem dX3_readTown_18 : decode cX3_readTown 18 = .ok (.aload_n 0, 1) := by decide +kernel
theorem dX3_readTown_19 : decode cX3_readTown 19 = .ok (.bipush 59, 2) := by decide +kernel
theorem dX3_readTown_21 : decode cX3_readTown 21 = .ok (.invokevirtual 31, 3) := by decide +kernel
theorem dX3_readTown_24 : decode cX3_readTown 24 = .ok (.ifCond .ne 5, 3) := by decide +kernel
theorem dX3_readTown_27 : decode cX3_readTown 27 = .ok (.iconst 0, 1) := by decide +kernel
theorem dX3_readTown_28 : decode cX3_readTown 28 = .ok (.ireturn, 1) := by decide +kernel
theorem dX3_readTown_29 : decode cX3_readTown 29 = .ok (.aload_n 1, 1) := by decide +kernel
theorem dX3_readTown_30 : decode cX3_readTown 30 = .ok (.iload_n 2, 1) := by decide +kernel
theorem dX3_readTown_31 : decode cX3_readTown 31 = .ok (.putfield 35, 3) := by decide +kernel
theorem dX3_readTown_34 : decode cX3_readTown 34 = .ok (.aload_n 0, 1) := by decide +kernel
theorem dX3_readTown_35 : decode cX3_readTown 35 = .ok (.aload_n 1, 1) := by decide +kernel
theorem dX3_readTown_36 : decode cX3_readTown 36 = .ok (.invokevirtual 38, 3) := by decide +kernel
theorem dX3_readTown_39 : decode cX3_readTown 39 = .ok (.ifCond .ne 5, 3) := by decide +kernel
theorem dX3_readTown_42 : decode cX3_readTown 42 = .ok (.iconst 0, 1) := by decide +kernel
theorem dX3_readTown_43 : decode cX3_readTown 43 = .ok (.ireturn, 1) := by decide +kernel
theorem dX3_readTown_44 : decode cX3_readTown 44 = .ok (.aload_n 0, 1) := by decide +kernel
theorem dX3_readTown_45 : decode cX3_readTown 45 = .ok (.bipush 59, 2) := by decide +kernel
theorem dX3_readTown_47 : decode cX3_readTown 47 = .ok (.invokevirtual 31, 3) := by decide +kernel
theorem dX3_readTown_50 : decode cX3_readTown 50 = .ok (.ifCond .eq 13, 3) := by decide +kernel
theorem dX3_readTown_53 : decode cX3_readTown 53 = .ok (.aload_n 0, 1) := by decide +kernel
theorem dX3_readTown_54 : decode cX3_readTown 54 = .ok (.aload_n 1, 1) := by decide +kernel
theorem dX3_readTown_55 : decode cX3_readTown 55 = .ok (.invokevirtual 42, 3) := by decide +kernel
theorem dX3_readTown_58 : decode cX3_readTown 58 = .ok (.ifCond .ne 5, 3) := by decide +kernel
theorem dX3_readTown_61 : decode cX3_readTown 61 = .ok (.iconst 0, 1) := by decide +kernel
theorem dX3_readTown_62 : decode cX3_readTown 62 = .ok (.ireturn, 1) := by decide +kernel
theorem dX3_readTown_63 : decode cX3_readTown 63 = .ok (.aload_n 0, 1) := by decide +kernel
theorem dX3_readTown_64 : decode cX3_readTown 64 = .ok (.invokevirtual 45, 3) := by decide +kernel
theorem dX3_readTown_67 : decode cX3_readTown 67 = .ok (.iconst (-1), 1) := by decide +kernel
theorem dX3_readTown_68 : decode cX3_readTown 68 = .ok (.if_icmp .ne 7, 3) := by decide +kernel
theorem dX3_readTown_71 : decode cX3_readTown 71 = .ok (.iconst 1, 1) := by decide +kernel
theorem dX3_readTown_72 : decode cX3_readTown 72 = .ok (.goto 4, 3) := by decide +kernel
theorem dX3_readTown_75 : decode cX3_readTown 75 = .ok (.iconst 0, 1) := by decide +kernel
theorem dX3_readTown_76 : decode cX3_readTown 76 = .ok (.ireturn, 1) := by decide +kernel
theorem dX3_readApprentices_0 : decode cX3_readApprentices 0 = .ok (.iconst 0, 1) := by decide +kernel
theorem dX3_readApprentices_1 : decode cX3_readApprentices 1 = .ok (.istore_n 2, 1) := by decide +kernel
theorem dX3_readApprentices_2 : decode cX3_readApprentices 2 = .ok (.iload_n 2, 1) := by decide +kernel
theorem dX3_readApprentices_3 : decode cX3_readApprentices 3 = .ok (.bipush 6, 2) := by decide +kernel
theorem dX3_readApprentices_5 : decode cX3_readApprentices 5 = .ok (.if_icmp .ge 34, 3) := by decide +kernel
theorem dX3_readApprentices_8 : decode cX3_readApprentices 8 = .ok (.iload_n 2, 1) := by decide +kernel
theorem dX3_readApprentices_9 : decode cX3_readApprentices 9 = .ok (.ifCond .le 14, 3) := by decide +kernel
theorem dX3_readApprentices_12 : decode cX3_readApprentices 12 = .ok (.aload_n 0, 1) := by decide +kernel
theorem dX3_readApprentices_13 : decode cX3_readApprentices 13 = .ok (.bipush 44, 2) := by decide +kernel
theorem dX3_readApprentices_15 : decode cX3_readApprentices 15 = .ok (.invokevirtual 31, 3) := by decide +kernel
theorem dX3_readApprentices_18 : decode cX3_readApprentices 18 = .ok (.ifCond .ne 5, 3) := by decide +kernel
theorem dX3_readApprentices_21 : decode cX3_readApprentices 21 = .ok (.iconst 1, 1) := by decide +kernel
theorem dX3_readApprentices_22 : decode cX3_readApprentices 22 = .ok (.ireturn, 1) := by decide +kernel
theorem dX3_readApprentices_23 : decode cX3_readApprentices 23 = .ok (.aload_n 0, 1) := by decide +kernel
theorem dX3_readApprentices_24 : decode cX3_readApprentices 24 = .ok (.aload_n 1, 1) := by decide +kernel
theorem dX3_readApprentices_25 : decode cX3_readApprentices 25 = .ok (.invokevirtual 48, 3) := by decide +kernel
theorem dX3_readApprentices_28 : decode cX3_readApprentices 28 = .ok (.ifCond .ne 5, 3) := by decide +kernel
theorem dX3_readApprentices_31 : decode cX3_readApprentices 31 = .ok (.iconst 0, 1) := by decide +kernel
theorem dX3_readApprentices_32 : decode cX3_readApprentices 32 = .ok (.ireturn, 1) := by decide +kernel
theorem dX3_readApprentices_33 : decode cX3_readApprentices 33 = .ok (.iinc 2 1, 3) := by decide +kernel
theorem dX3_readApprentices_36 : decode cX3_readApprentices 36 = .ok (.goto (-34), 3) := by decide +kernel
theorem dX3_readApprentices_39 : decode cX3_readApprentices 39 = .ok (.iconst 1, 1) := by decide +kernel
theorem dX3_readApprentices_40 : decode cX3_readApprentices 40 = .ok (.ireturn, 1) := by decide +kernel
theorem dX3_readApprentice_0 : decode cX3_readApprentice 0 = .ok (.aload_n 0, 1) := by decide +kernel
theorem dX3_readApprentice_1 : decode cX3_readApprentice 1 = .ok (.invokevirtual 45, 3) := by decide +kernel
theorem dX3_readApprentice_4 : decode cX3_readApprentice 4 = .ok (.istore_n 2, 1) := by decide +kernel
theorem dX3_readApprentice_5 : decode cX3_readApprentice 5 = .ok (.iload_n 2, 1) := by decide +kernel
theorem dX3_readApprentice_6 : decode cX3_readApprentice 6 = .ok (.iconst (-1), 1) := by decide +kernel
theorem dX3_readApprentice_7 : decode cX3_readApprentice 7 = .ok (.if_icmp .ne 7, 3) := by decide +kernel
theorem dX3_readApprentice_10 : decode cX3_readApprentice 10 = .ok (.iconst (-1), 1) := by decide +kernel
theorem dX3_readApprentice_11 : decode cX3_readApprentice 11 = .ok (.goto 10, 3) := by decide +kernel
theorem dX3_readApprentice_14 : decode cX3_readApprentice 14 = .ok (.ldc 51, 2) := by decide +kernel
theorem dX3_readApprentice_16 : decode cX3_readApprentice 16 = .ok (.iload_n 2, 1) := by decide +kernel
theorem dX3_readApprentice_17 : decode cX3_readApprentice 17 = .ok (.i2c, 1) := by decide +kernel
theorem dX3_readApprentice_18 : decode cX3_readApprentice 18 = .ok (.invokevirtual 53, 3) := by decide +kernel
theorem dX3_readApprentice_21 : decode cX3_readApprentice 21 = .ok (.istore_n 3, 1) := by decide +kernel
theorem dX3_readApprentice_22 : decode cX3_readApprentice 22 = .ok (.iload_n 3, 1) := by decide +kernel
theorem dX3_readApprentice_23 : decode cX3_readApprentice 23 = .ok (.ifCond .ge 5, 3) := by decide +kernel
theorem dX3_readApprentice_26 : decode cX3_readApprentice 26 = .ok (.iconst 0, 1) := by decide +kernel
theorem dX3_readApprentice_27 : decode cX3_readApprentice 27 = .ok (.ireturn, 1) := by decide +kernel
theorem dX3_readApprentice_28 : decode cX3_readApprentice 28 = .ok (.aload_n 0, 1) := by decide +kernel
theorem dX3_readApprentice_29 : decode cX3_readApprentice 29 = .ok (.dup, 1) := by decide +kernel
theorem dX3_readApprentice_30 : decode cX3_readApprentice 30 = .ok (.getfield 19, 3) := by decide +kernel
theorem dX3_readApprentice_33 : decode cX3_readApprentice 33 = .ok (.iconst 1, 1) := by decide +kernel
theorem dX3_readApprentice_34 : decode cX3_readApprentice 34 = .ok (.iadd, 1) := by decide +kernel
theorem dX3_readApprentice_35 : decode cX3_readApprentice 35 = .ok (.putfield 19, 3) := by decide +kernel
theorem dX3_readApprentice_38 : decode cX3_readApprentice 38 = .ok (.aload_n 0, 1) := by decide +kernel
theorem dX3_readApprentice_39 : decode cX3_readApprentice 39 = .ok (.iconst 3, 1) := by decide +kernel
theorem dX3_readApprentice_40 : decode cX3_readApprentice 40 = .ok (.invokevirtual 59, 3) := by decide +kernel
theorem dX3_readApprentice_43 : decode cX3_readApprentice 43 = .ok (.istore 4, 2) := by decide +kernel
theorem dX3_readApprentice_45 : decode cX3_readApprentice 45 = .ok (.iload 4, 2) := by decide +kernel
theorem dX3_readApprentice_47 : decode cX3_readApprentice 47 = .ok (.ifCond .ge 7, 3) := by decide +kernel
theorem dX3_readApprentice_50 : decode cX3_readApprentice 50 = .ok (.iconst (-1), 1) := by decide +kernel
theorem dX3_readApprentice_51 : decode cX3_readApprentice 51 = .ok (.goto 9, 3) := by decide +kernel
theorem dX3_readApprentice_54 : decode cX3_readApprentice 54 = .ok (.aload_n 0, 1) := by decide +kernel
theorem dX3_readApprentice_55 : decode cX3_readApprentice 55 = .ok (.bipush 9, 2) := by decide +kernel
theorem dX3_readApprentice_57 : decode cX3_readApprentice 57 = .ok (.invokevirtual 59, 3) := by decide +kernel
theorem dX3_readApprentice_60 : decode cX3_readApprentice 60 = .ok (.istore 5, 2) := by decide +kernel
theorem dX3_readApprentice_62 : decode cX3_readApprentice 62 = .ok (.iload 5, 2) := by decide +kernel
theorem dX3_readApprentice_64 : decode cX3_readApprentice 64 = .ok (.ifCond .ge 5, 3) := by decide +kernel
theorem dX3_readApprentice_67 : decode cX3_readApprentice 67 = .ok (.iconst 0, 1) := by decide +kernel
theorem dX3_readApprentice_68 : decode cX3_readApprentice 68 = .ok (.ireturn, 1) := by decide +kernel
theorem dX3_readApprentice_69 : decode cX3_readApprentice 69 = .ok (.aload_n 0, 1) := by decide +kernel
theorem dX3_readApprentice_70 : decode cX3_readApprentice 70 = .ok (.bipush 61, 2) := by decide +kernel
theorem dX3_readApprentice_72 : decode cX3_readApprentice 72 = .ok (.invokevirtual 31, 3) := by decide +kernel
theorem dX3_readApprentice_75 : decode cX3_readApprentice 75 = .ok (.ifCond .eq 10, 3) := by decide +kernel
theorem dX3_readApprentice_78 : decode cX3_readApprentice 78 = .ok (.aload_n 0, 1) := by decide +kernel
theorem dX3_readApprentice_79 : decode cX3_readApprentice 79 = .ok (.invokevirtual 27, 3) := by decide +kernel
theorem dX3_readApprentice_82 : decode cX3_readApprentice 82 = .ok (.goto 4, 3) := by decide +kernel
theorem dX3_readApprentice_85 : decode cX3_readApprentice 85 = .ok (.iconst 0, 1) := by decide +kernel
theorem dX3_readApprentice_86 : decode cX3_readApprentice 86 = .ok (.istore 6, 2) := by decide +kernel
theorem dX3_readApprentice_88 : decode cX3_readApprentice 88 = .ok (.iload 6, 2) := by decide +kernel
theorem dX3_readApprentice_90 : decode cX3_readApprentice 90 = .ok (.ifCond .ge 5, 3) := by decide +kernel
theorem dX3_readApprentice_93 : decode cX3_readApprentice 93 = .ok (.iconst 0, 1) := by decide +kernel
theorem dX3_readApprentice_94 : decode cX3_readApprentice 94 = .ok (.ireturn, 1) := by decide +kernel
theorem dX3_readApprentice_95 : decode cX3_readApprentice 95 = .ok (.aload_n 1, 1) := by decide +kernel
theorem dX3_readApprentice_96 : decode cX3_readApprentice 96 = .ok (.iload_n 3, 1) := by decide +kernel
theorem dX3_readApprentice_97 : decode cX3_readApprentice 97 = .ok (.iload 4, 2) := by decide +kernel
theorem dX3_readApprentice_99 : decode cX3_readApprentice 99 = .ok (.iload 5, 2) := by decide +kernel
theorem dX3_readApprentice_101 : decode cX3_readApprentice 101 = .ok (.invokevirtual 62, 3) := by decide +kernel
theorem dX3_readApprentice_104 : decode cX3_readApprentice 104 = .ok (.istore 7, 2) := by decide +kernel
theorem dX3_readApprentice_106 : decode cX3_readApprentice 106 = .ok (.iload 7, 2) := by decide +kernel
theorem dX3_readApprentice_108 : decode cX3_readApprentice 108 = .ok (.ifCond .ge 5, 3) := by decide +kernel
theorem dX3_readApprentice_111 : decode cX3_readApprentice 111 = .ok (.iconst 0, 1) := by decide +kernel
theorem dX3_readApprentice_112 : decode cX3_readApprentice 112 = .ok (.ireturn, 1) := by decide +kernel
theorem dX3_readApprentice_113 : decode cX3_readApprentice 113 = .ok (.aload_n 1, 1) := by decide +kernel
theorem dX3_readApprentice_114 : decode cX3_readApprentice 114 = .ok (.getfield 66, 3) := by decide +kernel
theorem dX3_readApprentice_117 : decode cX3_readApprentice 117 = .ok (.iload 7, 2) := by decide +kernel
theorem dX3_readApprentice_119 : decode cX3_readApprentice 119 = .ok (.iload 6, 2) := by decide +kernel
theorem dX3_readApprentice_121 : decode cX3_readApprentice 121 = .ok (.iastore, 1) := by decide +kernel
theorem dX3_readApprentice_122 : decode cX3_readApprentice 122 = .ok (.aload_n 1, 1) := by decide +kernel
theorem dX3_readApprentice_123 : decode cX3_readApprentice 123 = .ok (.iload 7, 2) := by decide +kernel
theorem dX3_readApprentice_125 : decode cX3_readApprentice 125 = .ok (.aload_n 0, 1) := by decide +kernel
theorem dX3_readApprentice_126 : decode cX3_readApprentice 126 = .ok (.bipush 120, 2) := by decide +kernel
theorem dX3_readApprentice_128 : decode cX3_readApprentice 128 = .ok (.invokevirtual 31, 3) := by decide +kernel
theorem dX3_readApprentice_131 : decode cX3_readApprentice 131 = .ok (.ifCond .ne 7, 3) := by decide +kernel
theorem dX3_readApprentice_134 : decode cX3_readApprentice 134 = .ok (.iconst 1, 1) := by decide +kernel
theorem dX3_readApprentice_135 : decode cX3_readApprentice 135 = .ok (.goto 4, 3) := by decide +kernel
theorem dX3_readApprentice_138 : decode cX3_readApprentice 138 = .ok (.iconst 0, 1) := by decide +kernel
theorem dX3_readApprentice_139 : decode cX3_readApprentice 139 = .ok (.invokevirtual 70, 3) := by decide +kernel
theorem dX3_readApprentice_142 : decode cX3_readApprentice 142 = .ok (.iconst 1, 1) := by decide +kernel
theorem dX3_readApprentice_143 : decode cX3_readApprentice 143 = .ok (.ireturn, 1) := by decide +kernel
theorem dX3_readThieves_0 : decode cX3_readThieves 0 = .ok (.iconst 0, 1) := by decide +kernel
theorem dX3_readThieves_1 : decode cX3_readThieves 1 = .ok (.istore_n 2, 1) := by decide +kernel
theorem dX3_readThieves_2 : decode cX3_readThieves 2 = .ok (.iload_n 2, 1) := by decide +kernel
theorem dX3_readThieves_3 : decode cX3_readThieves 3 = .ok (.iconst 4, 1) := by decide +kernel
theorem dX3_readThieves_4 : decode cX3_readThieves 4 = .ok (.if_icmp .ge 61, 3) := by decide +kernel
theorem dX3_readThieves_7 : decode cX3_readThieves 7 = .ok (.iload_n 2, 1) := by decide +kernel
theorem dX3_readThieves_8 : decode cX3_readThieves 8 = .ok (.ifCond .le 14, 3) := by decide +kernel
theorem dX3_readThieves_11 : decode cX3_readThieves 11 = .ok (.aload_n 0, 1) := by decide +kernel
theorem dX3_readThieves_12 : decode cX3_readThieves 12 = .ok (.bipush 44, 2) := by decide +kernel
theorem dX3_readThieves_14 : decode cX3_readThieves 14 = .ok (.invokevirtual 31, 3) := by decide +kernel
theorem dX3_readThieves_17 : decode cX3_readThieves 17 = .ok (.ifCond .ne 5, 3) := by decide +kernel
theorem dX3_readThieves_20 : decode cX3_readThieves 20 = .ok (.iconst 1, 1) := by decide +kernel
theorem dX3_readThieves_21 : decode cX3_readThieves 21 = .ok (.ireturn, 1) := by decide +kernel
theorem dX3_readThieves_22 : decode cX3_readThieves 22 = .ok (.aload_n 0, 1) := by decide +kernel
theorem dX3_readThieves_23 : decode cX3_readThieves 23 = .ok (.bipush 9, 2) := by decide +kernel
theorem dX3_readThieves_25 : decode cX3_readThieves 25 = .ok (.invokevirtual 59, 3) := by decide +kernel
theorem dX3_readThieves_28 : decode cX3_readThieves 28 = .ok (.istore_n 3, 1) := by decide +kernel
theorem dX3_readThieves_29 : decode cX3_readThieves 29 = .ok (.iload_n 3, 1) := by decide +kernel
theorem dX3_readThieves_30 : decode cX3_readThieves 30 = .ok (.ifCond .ge 7, 3) := by decide +kernel
theorem dX3_readThieves_33 : decode cX3_readThieves 33 = .ok (.iconst (-1), 1) := by decide +kernel
theorem dX3_readThieves_34 : decode cX3_readThieves 34 = .ok (.goto 8, 3) := by decide +kernel
theorem dX3_readThieves_37 : decode cX3_readThieves 37 = .ok (.aload_n 0, 1) := by decide +kernel
theorem dX3_readThieves_38 : decode cX3_readThieves 38 = .ok (.iconst 4, 1) := by decide +kernel
theorem dX3_readThieves_39 : decode cX3_readThieves 39 = .ok (.invokevirtual 59, 3) := by decide +kernel
theorem dX3_readThieves_42 : decode cX3_readThieves 42 = .ok (.istore 4, 2) := by decide +kernel
theorem dX3_readThieves_44 : decode cX3_readThieves 44 = .ok (.iload 4, 2) := by decide +kernel
theorem dX3_readThieves_46 : decode cX3_readThieves 46 = .ok (.ifCond .ge 5, 3) := by decide +kernel
theorem dX3_readThieves_49 : decode cX3_readThieves 49 = .ok (.iconst 0, 1) := by decide +kernel
theorem dX3_readThieves_50 : decode cX3_readThieves 50 = .ok (.ireturn, 1) := by decide +kernel
theorem dX3_readThieves_51 : decode cX3_readThieves 51 = .ok (.aload_n 1, 1) := by decide +kernel
theorem dX3_readThieves_52 : decode cX3_readThieves 52 = .ok (.iload_n 3, 1) := by decide +kernel
theorem dX3_readThieves_53 : decode cX3_readThieves 53 = .ok (.iload 4, 2) := by decide +kernel
theorem dX3_readThieves_55 : decode cX3_readThieves 55 = .ok (.invokevirtual 74, 3) := by decide +kernel
theorem dX3_readThieves_58 : decode cX3_readThieves 58 = .ok (.pop, 1) := by decide +kernel
theorem dX3_readThieves_59 : decode cX3_readThieves 59 = .ok (.iinc 2 1, 3) := by decide +kernel
theorem dX3_readThieves_62 : decode cX3_readThieves 62 = .ok (.goto (-60), 3) := by decide +kernel
theorem dX3_readThieves_65 : decode cX3_readThieves 65 = .ok (.iconst 1, 1) := by decide +kernel
theorem dX3_readThieves_66 : decode cX3_readThieves 66 = .ok (.ireturn, 1) := by decide +kernel
theorem dX3_peek_0 : decode cX3_peek 0 = .ok (.aload_n 0, 1) := by decide +kernel
theorem dX3_peek_1 : decode cX3_peek 1 = .ok (.getfield 19, 3) := by decide +kernel
theorem dX3_peek_4 : decode cX3_peek 4 = .ok (.aload_n 0, 1) := by decide +kernel
theorem dX3_peek_5 : decode cX3_peek 5 = .ok (.getfield 15, 3) := by decide +kernel
theorem dX3_peek_8 : decode cX3_peek 8 = .ok (.if_icmp .ge 30, 3) := by decide +kernel
theorem dX3_peek_11 : decode cX3_peek 11 = .ok (.aload_n 0, 1) := by decide +kernel
theorem dX3_peek_12 : decode cX3_peek 12 = .ok (.getfield 9, 3) := by decide +kernel
theorem dX3_peek_15 : decode cX3_peek 15 = .ok (.aload_n 0, 1) := by decide +kernel
theorem dX3_peek_16 : decode cX3_peek 16 = .ok (.getfield 19, 3) := by decide +kernel
theorem dX3_peek_19 : decode cX3_peek 19 = .ok (.caload, 1) := by decide +kernel
theorem dX3_peek_20 : decode cX3_peek 20 = .ok (.bipush 32, 2) := by decide +kernel
theorem dX3_peek_22 : decode cX3_peek 22 = .ok (.if_icmp .ne 16, 3) := by decide +kernel
theorem dX3_peek_25 : decode cX3_peek 25 = .ok (.aload_n 0, 1) := by decide +kernel
theorem dX3_peek_26 : decode cX3_peek 26 = .ok (.dup, 1) := by decide +kernel
theorem dX3_peek_27 : decode cX3_peek 27 = .ok (.getfield 19, 3) := by decide +kernel
theorem dX3_peek_30 : decode cX3_peek 30 = .ok (.iconst 1, 1) := by decide +kernel
theorem dX3_peek_31 : decode cX3_peek 31 = .ok (.iadd, 1) := by decide +kernel
theorem dX3_peek_32 : decode cX3_peek 32 = .ok (.putfield 19, 3) := by decide +kernel
theorem dX3_peek_35 : decode cX3_peek 35 = .ok (.goto (-35), 3) := by decide +kernel
theorem dX3_peek_38 : decode cX3_peek 38 = .ok (.aload_n 0, 1) := by decide +kernel
theorem dX3_peek_39 : decode cX3_peek 39 = .ok (.getfield 19, 3) := by decide +kernel
theorem dX3_peek_42 : decode cX3_peek 42 = .ok (.aload_n 0, 1) := by decide +kernel
theorem dX3_peek_43 : decode cX3_peek 43 = .ok (.getfield 15, 3) := by decide +kernel
theorem dX3_peek_46 : decode cX3_peek 46 = .ok (.if_icmp .ge 15, 3) := by decide +kernel
theorem dX3_peek_49 : decode cX3_peek 49 = .ok (.aload_n 0, 1) := by decide +kernel
theorem dX3_peek_50 : decode cX3_peek 50 = .ok (.getfield 9, 3) := by decide +kernel
theorem dX3_peek_53 : decode cX3_peek 53 = .ok (.aload_n 0, 1) := by decide +kernel
theorem dX3_peek_54 : decode cX3_peek 54 = .ok (.getfield 19, 3) := by decide +kernel
theorem dX3_peek_57 : decode cX3_peek 57 = .ok (.caload, 1) := by decide +kernel
theorem dX3_peek_58 : decode cX3_peek 58 = .ok (.goto 4, 3) := by decide +kernel
theorem dX3_peek_61 : decode cX3_peek 61 = .ok (.iconst (-1), 1) := by decide +kernel
theorem dX3_peek_62 : decode cX3_peek 62 = .ok (.ireturn, 1) := by decide +kernel
theorem dX3_takes_0 : decode cX3_takes 0 = .ok (.aload_n 0, 1) := by decide +kernel
theorem dX3_takes_1 : decode cX3_takes 1 = .ok (.invokevirtual 45, 3) := by decide +kernel
theorem dX3_takes_4 : decode cX3_takes 4 = .ok (.iload_n 1, 1) := by decide +kernel
theorem dX3_takes_5 : decode cX3_takes 5 = .ok (.if_icmp .ne 7, 3) := by decide +kernel
theorem dX3_takes_8 : decode cX3_takes 8 = .ok (.iconst 1, 1) := by decide +kernel
theorem dX3_takes_9 : decode cX3_takes 9 = .ok (.goto 4, 3) := by decide +kernel
theorem dX3_takes_12 : decode cX3_takes 12 = .ok (.iconst 0, 1) := by decide +kernel
theorem dX3_takes_13 : decode cX3_takes 13 = .ok (.istore_n 2, 1) := by decide +kernel
theorem dX3_takes_14 : decode cX3_takes 14 = .ok (.iload_n 2, 1) := by decide +kernel
theorem dX3_takes_15 : decode cX3_takes 15 = .ok (.ifCond .eq 13, 3) := by decide +kernel
theorem dX3_takes_18 : decode cX3_takes 18 = .ok (.aload_n 0, 1) := by decide +kernel
theorem dX3_takes_19 : decode cX3_takes 19 = .ok (.dup, 1) := by decide +kernel
theorem dX3_takes_20 : decode cX3_takes 20 = .ok (.getfield 19, 3) := by decide +kernel
theorem dX3_takes_23 : decode cX3_takes 23 = .ok (.iconst 1, 1) := by decide +kernel
theorem dX3_takes_24 : decode cX3_takes 24 = .ok (.iadd, 1) := by decide +kernel
theorem dX3_takes_25 : decode cX3_takes 25 = .ok (.putfield 19, 3) := by decide +kernel
theorem dX3_takes_28 : decode cX3_takes 28 = .ok (.iload_n 2, 1) := by decide +kernel
theorem dX3_takes_29 : decode cX3_takes 29 = .ok (.ireturn, 1) := by decide +kernel
theorem dX3_readDigit_0 : decode cX3_readDigit 0 = .ok (.aload_n 0, 1) := by decide +kernel
theorem dX3_readDigit_1 : decode cX3_readDigit 1 = .ok (.invokevirtual 45, 3) := by decide +kernel
theorem dX3_readDigit_4 : decode cX3_readDigit 4 = .ok (.bipush 48, 2) := by decide +kernel
theorem dX3_readDigit_6 : decode cX3_readDigit 6 = .ok (.isub, 1) := by decide +kernel
theorem dX3_readDigit_7 : decode cX3_readDigit 7 = .ok (.istore_n 2, 1) := by decide +kernel
theorem dX3_readDigit_8 : decode cX3_readDigit 8 = .ok (.iload_n 2, 1) := by decide +kernel
theorem dX3_readDigit_9 : decode cX3_readDigit 9 = .ok (.ifCond .lt 8, 3) := by decide +kernel
theorem dX3_readDigit_12 : decode cX3_readDigit 12 = .ok (.iload_n 2, 1) := by decide +kernel
theorem dX3_readDigit_13 : decode cX3_readDigit 13 = .ok (.iload_n 1, 1) := by decide +kernel
theorem dX3_readDigit_14 : decode cX3_readDigit 14 = .ok (.if_icmp .le 5, 3) := by decide +kernel
theorem dX3_readDigit_17 : decode cX3_readDigit 17 = .ok (.iconst (-1), 1) := by decide +kernel
theorem dX3_readDigit_18 : decode cX3_readDigit 18 = .ok (.ireturn, 1) := by decide +kernel
theorem dX3_readDigit_19 : decode cX3_readDigit 19 = .ok (.aload_n 0, 1) := by decide +kernel
theorem dX3_readDigit_20 : decode cX3_readDigit 20 = .ok (.dup, 1) := by decide +kernel
theorem dX3_readDigit_21 : decode cX3_readDigit 21 = .ok (.getfield 19, 3) := by decide +kernel
theorem dX3_readDigit_24 : decode cX3_readDigit 24 = .ok (.iconst 1, 1) := by decide +kernel
theorem dX3_readDigit_25 : decode cX3_readDigit 25 = .ok (.iadd, 1) := by decide +kernel
theorem dX3_readDigit_26 : decode cX3_readDigit 26 = .ok (.putfield 19, 3) := by decide +kernel
theorem dX3_readDigit_29 : decode cX3_readDigit 29 = .ok (.iload_n 2, 1) := by decide +kernel
theorem dX3_readDigit_30 : decode cX3_readDigit 30 = .ok (.ireturn, 1) := by decide +kernel
theorem dX3_readNumber_0 : decode cX3_readNumber 0 = .ok (.aload_n 0, 1) := by decide +kernel
theorem dX3_readNumber_1 : decode cX3_readNumber 1 = .ok (.bipush 9, 2) := by decide +kernel
theorem dX3_readNumber_3 : decode cX3_readNumber 3 = .ok (.invokevirtual 59, 3) := by decide +kernel
theorem dX3_readNumber_6 : decode cX3_readNumber 6 = .ok (.istore_n 1, 1) := by decide +kernel
theorem dX3_readNumber_7 : decode cX3_readNumber 7 = .ok (.iload_n 1, 1) := by decide +kernel
theorem dX3_readNumber_8 : decode cX3_readNumber 8 = .ok (.ifCond .lt 28, 3) := by decide +kernel
theorem dX3_readNumber_11 : decode cX3_readNumber 11 = .ok (.aload_n 0, 1) := by decide +kernel
theorem dX3_readNumber_12 : decode cX3_readNumber 12 = .ok (.getfield 19, 3) := by decide +kernel
theorem dX3_readNumber_15 : decode cX3_readNumber 15 = .ok (.aload_n 0, 1) := by decide +kernel
theorem dX3_readNumber_16 : decode cX3_readNumber 16 = .ok (.getfield 15, 3) := by decide +kernel
theorem dX3_readNumber_19 : decode cX3_readNumber 19 = .ok (.if_icmp .ge 17, 3) := by decide +kernel
theorem dX3_readNumber_22 : decode cX3_readNumber 22 = .ok (.aload_n 0, 1) := by decide +kernel
theorem dX3_readNumber_23 : decode cX3_readNumber 23 = .ok (.getfield 9, 3) := by decide +kernel
theorem dX3_readNumber_26 : decode cX3_readNumber 26 = .ok (.aload_n 0, 1) := by decide +kernel
theorem dX3_readNumber_27 : decode cX3_readNumber 27 = .ok (.getfield 19, 3) := by decide +kernel
theorem dX3_readNumber_30 : decode cX3_readNumber 30 = .ok (.caload, 1) := by decide +kernel
theorem dX3_readNumber_31 : decode cX3_readNumber 31 = .ok (.bipush 32, 2) := by decide +kernel
theorem dX3_readNumber_33 : decode cX3_readNumber 33 = .ok (.if_icmp .ne 5, 3) := by decide +kernel
theorem dX3_readNumber_36 : decode cX3_readNumber 36 = .ok (.iload_n 1, 1) := by decide +kernel
theorem dX3_readNumber_37 : decode cX3_readNumber 37 = .ok (.ireturn, 1) := by decide +kernel
theorem dX3_readNumber_38 : decode cX3_readNumber 38 = .ok (.aload_n 0, 1) := by decide +kernel
theorem dX3_readNumber_39 : decode cX3_readNumber 39 = .ok (.bipush 9, 2) := by decide +kernel
theorem dX3_readNumber_41 : decode cX3_readNumber 41 = .ok (.invokevirtual 59, 3) := by decide +kernel
theorem dX3_readNumber_44 : decode cX3_readNumber 44 = .ok (.istore_n 2, 1) := by decide +kernel
theorem dX3_readNumber_45 : decode cX3_readNumber 45 = .ok (.iload_n 2, 1) := by decide +kernel
theorem dX3_readNumber_46 : decode cX3_readNumber 46 = .ok (.ifCond .ge 7, 3) := by decide +kernel
theorem dX3_readNumber_49 : decode cX3_readNumber 49 = .ok (.iload_n 1, 1) := by decide +kernel
theorem dX3_readNumber_50 : decode cX3_readNumber 50 = .ok (.goto 9, 3) := by decide +kernel
theorem dX3_readNumber_53 : decode cX3_readNumber 53 = .ok (.bipush 10, 2) := by decide +kernel
theorem dX3_readNumber_55 : decode cX3_readNumber 55 = .ok (.iload_n 1, 1) := by decide +kernel
theorem dX3_readNumber_56 : decode cX3_readNumber 56 = .ok (.imul, 1) := by decide +kernel
theorem dX3_readNumber_57 : decode cX3_readNumber 57 = .ok (.iload_n 2, 1) := by decide +kernel
theorem dX3_readNumber_58 : decode cX3_readNumber 58 = .ok (.iadd, 1) := by decide +kernel
theorem dX3_readNumber_59 : decode cX3_readNumber 59 = .ok (.ireturn, 1) := by decide +kernel
theorem dX4_init_0 : decode cX4_init 0 = .ok (.aload_n 0, 1) := by decide +kernel
theorem dX4_init_1 : decode cX4_init 1 = .ok (.invokespecial 3, 3) := by decide +kernel
theorem dX4_init_4 : decode cX4_init 4 = .ok (.aload_n 0, 1) := by decide +kernel
theorem dX4_init_5 : decode cX4_init 5 = .ok (.bipush 6, 2) := by decide +kernel
theorem dX4_init_7 : decode cX4_init 7 = .ok (.newarray .int, 2) := by decide +kernel
theorem dX4_init_9 : decode cX4_init 9 = .ok (.putfield 9, 3) := by decide +kernel
theorem dX4_init_12 : decode cX4_init 12 = .ok (.aload_n 0, 1) := by decide +kernel
theorem dX4_init_13 : decode cX4_init 13 = .ok (.bipush 6, 2) := by decide +kernel
theorem dX4_init_15 : decode cX4_init 15 = .ok (.newarray .int, 2) := by decide +kernel
theorem dX4_init_17 : decode cX4_init 17 = .ok (.putfield 15, 3) := by decide +kernel
theorem dX4_init_20 : decode cX4_init 20 = .ok (.aload_n 0, 1) := by decide +kernel
theorem dX4_init_21 : decode cX4_init 21 = .ok (.bipush 6, 2) := by decide +kernel
theorem dX4_init_23 : decode cX4_init 23 = .ok (.newarray .int, 2) := by decide +kernel
theorem dX4_init_25 : decode cX4_init 25 = .ok (.putfield 18, 3) := by decide +kernel
theorem dX4_init_28 : decode cX4_init 28 = .ok (.aload_n 0, 1) := by decide +kernel
theorem dX4_init_29 : decode cX4_init 29 = .ok (.bipush 6, 2) := by decide +kernel
theorem dX4_init_31 : decode cX4_init 31 = .ok (.newarray .int, 2) := by decide +kernel
theorem dX4_init_33 : decode cX4_init 33 = .ok (.putfield 21, 3) := by decide +kernel
theorem dX4_init_36 : decode cX4_init 36 = .ok (.aload_n 0, 1) := by decide +kernel
theorem dX4_init_37 : decode cX4_init 37 = .ok (.iconst 4, 1) := by decide +kernel
theorem dX4_init_38 : decode cX4_init 38 = .ok (.newarray .int, 2) := by decide +kernel
theorem dX4_init_40 : decode cX4_init 40 = .ok (.putfield 24, 3) := by decide +kernel
theorem dX4_init_43 : decode cX4_init 43 = .ok (.aload_n 0, 1) := by decide +kernel
theorem dX4_init_44 : decode cX4_init 44 = .ok (.iconst 4, 1) := by decide +kernel
theorem dX4_init_45 : decode cX4_init 45 = .ok (.newarray .int, 2) := by decide +kernel
theorem dX4_init_47 : decode cX4_init 47 = .ok (.putfield 27, 3) := by decide +kernel
theorem dX4_init_50 : decode cX4_init 50 = .ok (.aload_n 0, 1) := by decide +kernel
theorem dX4_init_51 : decode cX4_init 51 = .ok (.bipush 10, 2) := by decide +kernel
theorem dX4_init_53 : decode cX4_init 53 = .ok (.putfield 30, 3) := by decide +kernel
theorem dX4_init_56 : decode cX4_init 56 = .ok (.aload_n 0, 1) := by decide +kernel
theorem dX4_init_57 : decode cX4_init 57 = .ok (.iconst 1, 1) := by decide +kernel
theorem dX4_init_58 : decode cX4_init 58 = .ok (.putfield 34, 3) := by decide +kernel
theorem dX4_init_61 : decode cX4_init 61 = .ok (.return_, 1) := by decide +kernel
theorem dX4_become_0 : decode cX4_become 0 = .ok (.aload_n 1, 1) := by decide +kernel
theorem dX4_become_1 : decode cX4_become 1 = .ok (.getfield 9, 3) := by decide +kernel
theorem dX4_become_4 : decode cX4_become 4 = .ok (.iconst 0, 1) := by decide +kernel
theorem dX4_become_5 : decode cX4_become 5 = .ok (.aload_n 0, 1) := by decide +kernel
theorem dX4_become_6 : decode cX4_become 6 = .ok (.getfield 9, 3) := by decide +kernel
theorem dX4_become_9 : decode cX4_become 9 = .ok (.iconst 0, 1) := by decide +kernel
theorem dX4_become_10 : decode cX4_become 10 = .ok (.bipush 6, 2) := by decide +kernel
theorem dX4_become_12 : decode cX4_become 12 = .ok (.invokestatic 37, 3) := by decide +kernel
theorem dX4_become_15 : decode cX4_become 15 = .ok (.aload_n 1, 1) := by decide +kernel
theorem dX4_become_16 : decode cX4_become 16 = .ok (.getfield 15, 3) := by decide +kernel
theorem dX4_become_19 : decode cX4_become 19 = .ok (.iconst 0, 1) := by decide +kernel
theorem dX4_become_20 : decode cX4_become 20 = .ok (.aload_n 0, 1) := by decide +kernel
theorem dX4_become_21 : decode cX4_become 21 = .ok (.getfield 15, 3) := by decide +kernel
theorem dX4_become_24 : decode cX4_become 24 = .ok (.iconst 0, 1) := by decide +kernel
theorem dX4_become_25 : decode cX4_become 25 = .ok (.bipush 6, 2) := by decide +kernel
theorem dX4_become_27 : decode cX4_become 27 = .ok (.invokestatic 37, 3) := by decide +kernel
theorem dX4_become_30 : decode cX4_become 30 = .ok (.aload_n 1, 1) := by decide +kernel
theorem dX4_become_31 : decode cX4_become 31 = .ok (.getfield 18, 3) := by decide +kernel
theorem dX4_become_34 : decode cX4_become 34 = .ok (.iconst 0, 1) := by decide +kernel
theorem dX4_become_35 : decode cX4_become 35 = .ok (.aload_n 0, 1) := by decide +kernel
theorem dX4_become_36 : decode cX4_become 36 = .ok (.getfield 18, 3) := by decide +kernel
theorem dX4_become_39 : decode cX4_become 39 = .ok (.iconst 0, 1) := by decide +kernel
theorem dX4_become_40 : decode cX4_become 40 = .ok (.bipush 6, 2) := by decide +kernel
theorem dX4_become_42 : decode cX4_become 42 = .ok (.invokestatic 37, 3) := by decide +kernel
theorem dX4_become_45 : decode cX4_become 45 = .ok (.aload_n 1, 1) := by decide +kernel
theorem dX4_become_46 : decode cX4_become 46 = .ok (.getfield 21, 3) := by decide +kernel
theorem dX4_become_49 : decode cX4_become 49 = .ok (.iconst 0, 1) := by decide +kernel
theorem dX4_become_50 : decode cX4_become 50 = .ok (.aload_n 0, 1) := by decide +kernel
theorem dX4_become_51 : decode cX4_become 51 = .ok (.getfield 21, 3) := by decide +kernel
theorem dX4_become_54 : decode cX4_become 54 = .ok (.iconst 0, 1) := by decide +kernel
theorem dX4_become_55 : decode cX4_become 55 = .ok (.bipush 6, 2) := by decide +kernel
theorem dX4_become_57 : decode cX4_become 57 = .ok (.invokestatic 37, 3) := by decide +kernel
theorem dX4_become_60 : decode cX4_become 60 = .ok (.aload_n 1, 1) := by decide +kernel
theorem dX4_become_61 : decode cX4_become 61 = .ok (.getfield 24, 3) := by decide +kernel
theorem dX4_become_64 : decode cX4_become 64 = .ok (.iconst 0, 1) := by decide +kernel
theorem dX4_become_65 : decode cX4_become 65 = .ok (.aload_n 0, 1) := by decide +kernel
theorem dX4_become_66 : decode cX4_become 66 = .ok (.getfield 24, 3) := by decide +kernel
theorem dX4_become_69 : decode cX4_become 69 = .ok (.iconst 0, 1) := by decide +kernel
theorem dX4_become_70 : decode cX4_become 70 = .ok (.iconst 4, 1) := by decide +kernel
theorem dX4_become_71 : decode cX4_become 71 = .ok (.invokestatic 37, 3) := by decide +kernel
theorem dX4_become_74 : decode cX4_become 74 = .ok (.aload_n 1, 1) := by decide +kernel
theorem dX4_become_75 : decode cX4_become 75 = .ok (.getfield 27, 3) := by decide +kernel
theorem dX4_become_78 : decode cX4_become 78 = .ok (.iconst 0, 1) := by decide +kernel
theorem dX4_become_79 : decode cX4_become 79 = .ok (.aload_n 0, 1) := by decide +kernel
theorem dX4_become_80 : decode cX4_become 80 = .ok (.getfield 27, 3) := by decide +kernel
theorem dX4_become_83 : decode cX4_become 83 = .ok (.iconst 0, 1) := by decide +kernel
theorem dX4_become_84 : decode cX4_become 84 = .ok (.iconst 4, 1) := by decide +kernel
theorem dX4_become_85 : decode cX4_become 85 = .ok (.invokestatic 37, 3) := by decide +kernel
theorem dX4_become_88 : decode cX4_become 88 = .ok (.aload_n 0, 1) := by decide +kernel
theorem dX4_become_89 : decode cX4_become 89 = .ok (.aload_n 1, 1) := by decide +kernel
theorem dX4_become_90 : decode cX4_become 90 = .ok (.getfield 43, 3) := by decide +kernel
theorem dX4_become_93 : decode cX4_become 93 = .ok (.putfield 43, 3) := by decide +kernel
theorem dX4_become_96 : decode cX4_become 96 = .ok (.aload_n 0, 1) := by decide +kernel
theorem dX4_become_97 : decode cX4_become 97 = .ok (.aload_n 1, 1) := by decide +kernel
theorem dX4_become_98 : decode cX4_become 98 = .ok (.getfield 46, 3) := by decide +kernel
theorem dX4_become_101 : decode cX4_become 101 = .ok (.putfield 46, 3) := by decide +kernel
theorem dX4_become_104 : decode cX4_become 104 = .ok (.aload_n 0, 1) := by decide +kernel
theorem dX4_become_105 : decode cX4_become 105 = .ok (.aload_n 1, 1) := by decide +kernel
theorem dX4_become_106 : decode cX4_become 106 = .ok (.getfield 49, 3) := by decide +kernel
theorem dX4_become_109 : decode cX4_become 109 = .ok (.putfield 49, 3) := by decide +kernel
theorem dX4_become_112 : decode cX4_become 112 = .ok (.aload_n 0, 1) := by decide +kernel
theorem dX4_become_113 : decode cX4_become 113 = .ok (.aload_n 1, 1) := by decide +kernel
theorem dX4_become_114 : decode cX4_become 114 = .ok (.getfield 52, 3) := by decide +kernel
theorem dX4_become_117 : decode cX4_become 117 = .ok (.putfield 52, 3) := by decide +kernel
theorem dX4_become_120 : decode cX4_become 120 = .ok (.aload_n 0, 1) := by decide +kernel
theorem dX4_become_121 : decode cX4_become 121 = .ok (.aload_n 1, 1) := by decide +kernel
theorem dX4_become_122 : decode cX4_become 122 = .ok (.getfield 55, 3) := by decide +kernel
theorem dX4_become_125 : decode cX4_become 125 = .ok (.putfield 55, 3) := by decide +kernel
theorem dX4_become_128 : decode cX4_become 128 = .ok (.aload_n 0, 1) := by decide +kernel
theorem dX4_become_129 : decode cX4_become 129 = .ok (.aload_n 1, 1) := by decide +kernel
theorem dX4_become_130 : decode cX4_become 130 = .ok (.getfield 30, 3) := by decide +kernel
theorem dX4_become_133 : decode cX4_become 133 = .ok (.putfield 30, 3) := by decide +kernel
theorem dX4_become_136 : decode cX4_become 136 = .ok (.aload_n 0, 1) := by decide +kernel
theorem dX4_become_137 : decode cX4_become 137 = .ok (.aload_n 1, 1) := by decide +kernel
theorem dX4_become_138 : decode cX4_become 138 = .ok (.getfield 34, 3) := by decide +kernel
theorem dX4_become_141 : decode cX4_become 141 = .ok (.putfield 34, 3) := by decide +kernel
theorem dX4_become_144 : decode cX4_become 144 = .ok (.return_, 1) := by decide +kernel
theorem dX4_empty_0 : decode cX4_empty 0 = .ok (.aload_n 0, 1) := by decide +kernel
theorem dX4_empty_1 : decode cX4_empty 1 = .ok (.iconst 0, 1) := by decide +kernel
theorem dX4_empty_2 : decode cX4_empty 2 = .ok (.putfield 43, 3) := by decide +kernel
theorem dX4_empty_5 : decode cX4_empty 5 = .ok (.aload_n 0, 1) := by decide +kernel
theorem dX4_empty_6 : decode cX4_empty 6 = .ok (.iconst 0, 1) := by decide +kernel
theorem dX4_empty_7 : decode cX4_empty 7 = .ok (.putfield 46, 3) := by decide +kernel
theorem dX4_empty_10 : decode cX4_empty 10 = .ok (.aload_n 0, 1) := by decide +kernel
theorem dX4_empty_11 : decode cX4_empty 11 = .ok (.iconst 0, 1) := by decide +kernel
theorem dX4_empty_12 : decode cX4_empty 12 = .ok (.putfield 49, 3) := by decide +kernel
theorem dX4_empty_15 : decode cX4_empty 15 = .ok (.aload_n 0, 1) := by decide +kernel
theorem dX4_empty_16 : decode cX4_empty 16 = .ok (.iconst 0, 1) := by decide +kernel
theorem dX4_empty_17 : decode cX4_empty 17 = .ok (.putfield 52, 3) := by decide +kernel
theorem dX4_empty_20 : decode cX4_empty 20 = .ok (.aload_n 0, 1) := by decide +kernel
theorem dX4_empty_21 : decode cX4_empty 21 = .ok (.iconst 0, 1) := by decide +kernel
theorem dX4_empty_22 : decode cX4_empty 22 = .ok (.putfield 55, 3) := by decide +kernel
theorem dX4_empty_25 : decode cX4_empty 25 = .ok (.return_, 1) := by decide +kernel
theorem dX4_addApprentice_0 : decode cX4_addApprentice 0 = .ok (.aload_n 0, 1) := by decide +kernel
theorem dX4_addApprentice_1 : decode cX4_addApprentice 1 = .ok (.getfield 43, 3) := by decide +kernel
theorem dX4_addApprentice_4 : decode cX4_addApprentice 4 = .ok (.istore 4, 2) := by decide +kernel
theorem dX4_addApprentice_6 : decode cX4_addApprentice 6 = .ok (.iload 4, 2) := by decide +kernel
theorem dX4_addApprentice_8 : decode cX4_addApprentice 8 = .ok (.bipush 6, 2) := by decide +kernel
theorem dX4_addApprentice_10 : decode cX4_addApprentice 10 = .ok (.if_icmp .lt 6, 3) := by decide +kernel
theorem dX4_addApprentice_13 : decode cX4_addApprentice 13 = .ok (.bipush (-3), 2) := by decide +kernel
theorem dX4_addApprentice_15 : decode cX4_addApprentice 15 = .ok (.ireturn, 1) := by decide +kernel
theorem dX4_addApprentice_16 : decode cX4_addApprentice 16 = .ok (.aload_n 0, 1) := by decide +kernel
theorem dX4_addApprentice_17 : decode cX4_addApprentice 17 = .ok (.getfield 9, 3) := by decide +kernel
theorem dX4_addApprentice_20 : decode cX4_addApprentice 20 = .ok (.iload 4, 2) := by decide +kernel
theorem dX4_addApprentice_22 : decode cX4_addApprentice 22 = .ok (.iload_n 1, 1) := by decide +kernel
theorem dX4_addApprentice_23 : decode cX4_addApprentice 23 = .ok (.iastore, 1) := by decide +kernel
theorem dX4_addApprentice_24 : decode cX4_addApprentice 24 = .ok (.aload_n 0, 1) := by decide +kernel
theorem dX4_addApprentice_25 : decode cX4_addApprentice 25 = .ok (.getfield 15, 3) := by decide +kernel
theorem dX4_addApprentice_28 : decode cX4_addApprentice 28 = .ok (.iload 4, 2) := by decide +kernel
theorem dX4_addApprentice_30 : decode cX4_addApprentice 30 = .ok (.iload_n 2, 1) := by decide +kernel
theorem dX4_addApprentice_31 : decode cX4_addApprentice 31 = .ok (.iastore, 1) := by decide +kernel
theorem dX4_addApprentice_32 : decode cX4_addApprentice 32 = .ok (.aload_n 0, 1) := by decide +kernel
theorem dX4_addApprentice_33 : decode cX4_addApprentice 33 = .ok (.getfield 18, 3) := by decide +kernel
theorem dX4_addApprentice_36 : decode cX4_addApprentice 36 = .ok (.iload 4, 2) := by decide +kernel
theorem dX4_addApprentice_38 : decode cX4_addApprentice 38 = .ok (.iconst 0, 1) := by decide +kernel
theorem dX4_addApprentice_39 : decode cX4_addApprentice 39 = .ok (.iastore, 1) := by decide +kernel
theorem dX4_addApprentice_40 : decode cX4_addApprentice 40 = .ok (.aload_n 0, 1) := by decide +kernel
theorem dX4_addApprentice_41 : decode cX4_addApprentice 41 = .ok (.getfield 21, 3) := by decide +kernel
theorem dX4_addApprentice_44 : decode cX4_addApprentice 44 = .ok (.iload 4, 2) := by decide +kernel
theorem dX4_addApprentice_46 : decode cX4_addApprentice 46 = .ok (.iload_n 3, 1) := by decide +kernel
theorem dX4_addApprentice_47 : decode cX4_addApprentice 47 = .ok (.iastore, 1) := by decide +kernel
theorem dX4_addApprentice_48 : decode cX4_addApprentice 48 = .ok (.aload_n 0, 1) := by decide +kernel
theorem dX4_addApprentice_49 : decode cX4_addApprentice 49 = .ok (.iload 4, 2) := by decide +kernel
theorem dX4_addApprentice_51 : decode cX4_addApprentice 51 = .ok (.iconst 1, 1) := by decide +kernel
theorem dX4_addApprentice_52 : decode cX4_addApprentice 52 = .ok (.invokevirtual 58, 3) := by decide +kernel
theorem dX4_addApprentice_55 : decode cX4_addApprentice 55 = .ok (.aload_n 0, 1) := by decide +kernel
theorem dX4_addApprentice_56 : decode cX4_addApprentice 56 = .ok (.iload 4, 2) := by decide +kernel
theorem dX4_addApprentice_58 : decode cX4_addApprentice 58 = .ok (.iconst 1, 1) := by decide +kernel
theorem dX4_addApprentice_59 : decode cX4_addApprentice 59 = .ok (.iadd, 1) := by decide +kernel
theorem dX4_addApprentice_60 : decode cX4_addApprentice 60 = .ok (.putfield 43, 3) := by decide +kernel
theorem dX4_addApprentice_63 : decode cX4_addApprentice 63 = .ok (.iload 4, 2) := by decide +kernel
theorem dX4_addApprentice_65 : decode cX4_addApprentice 65 = .ok (.ireturn, 1) := by decide +kernel
theorem dX4_addThief_0 : decode cX4_addThief 0 = .ok (.aload_n 0, 1) := by decide +kernel
theorem dX4_addThief_1 : decode cX4_addThief 1 = .ok (.getfield 46, 3) := by decide +kernel
theorem dX4_addThief_4 : decode cX4_addThief 4 = .ok (.istore_n 3, 1) := by decide +kernel
theorem dX4_addThief_5 : decode cX4_addThief 5 = .ok (.iload_n 3, 1) := by decide +kernel
theorem dX4_addThief_6 : decode cX4_addThief 6 = .ok (.iconst 4, 1) := by decide +kernel
theorem dX4_addThief_7 : decode cX4_addThief 7 = .ok (.if_icmp .lt 6, 3) := by decide +kernel
theorem dX4_addThief_10 : decode cX4_addThief 10 = .ok (.bipush (-3), 2) := by decide +kernel
theorem dX4_addThief_12 : decode cX4_addThief 12 = .ok (.ireturn, 1) := by decide +kernel
theorem dX4_addThief_13 : decode cX4_addThief 13 = .ok (.aload_n 0, 1) := by decide +kernel
theorem dX4_addThief_14 : decode cX4_addThief 14 = .ok (.getfield 24, 3) := by decide +kernel
theorem dX4_addThief_17 : decode cX4_addThief 17 = .ok (.iload_n 3, 1) := by decide +kernel
theorem dX4_addThief_18 : decode cX4_addThief 18 = .ok (.iload_n 1, 1) := by decide +kernel
theorem dX4_addThief_19 : decode cX4_addThief 19 = .ok (.iastore, 1) := by decide +kernel
theorem dX4_addThief_20 : decode cX4_addThief 20 = .ok (.aload_n 0, 1) := by decide +kernel
theorem dX4_addThief_21 : decode cX4_addThief 21 = .ok (.getfield 27, 3) := by decide +kernel
theorem dX4_addThief_24 : decode cX4_addThief 24 = .ok (.iload_n 3, 1) := by decide +kernel
theorem dX4_addThief_25 : decode cX4_addThief 25 = .ok (.iload_n 2, 1) := by decide +kernel
theorem dX4_addThief_26 : decode cX4_addThief 26 = .ok (.iastore, 1) := by decide +kernel
theorem dX4_addThief_27 : decode cX4_addThief 27 = .ok (.aload_n 0, 1) := by decide +kernel
