theorem dX5_leave_106 : decode cX5_leave 106 = .ok (.idiv, 1) := by decide +kernel
theorem dX5_leave_107 : decode cX5_leave 107 = .ok (.istore 4, 2) := by decide +kernel
theorem dX5_leave_109 : decode cX5_leave 109 = .ok (.iload 5, 2) := by decide +kernel
theorem dX5_leave_111 : decode cX5_leave 111 = .ok (.iconst 5, 1) := by decide +kernel
theorem dX5_leave_112 : decode cX5_leave 112 = .ok (.idiv, 1) := by decide +kernel
theorem dX5_leave_113 : decode cX5_leave 113 = .ok (.istore 5, 2) := by decide +kernel
theorem dX5_leave_115 : decode cX5_leave 115 = .ok (.iinc 6 1, 3) := by decide +kernel
theorem dX5_leave_118 : decode cX5_leave 118 = .ok (.goto (-61), 3) := by decide +kernel
theorem dX5_leave_121 : decode cX5_leave 121 = .ok (.iload_n 3, 1) := by decide +kernel
theorem dX5_leave_122 : decode cX5_leave 122 = .ok (.ifCond .ne 8, 3) := by decide +kernel
theorem dX5_leave_125 : decode cX5_leave 125 = .ok (.iload 4, 2) := by decide +kernel
theorem dX5_leave_127 : decode cX5_leave 127 = .ok (.goto 5, 3) := by decide +kernel
theorem dX5_leave_130 : decode cX5_leave 130 = .ok (.iload 5, 2) := by decide +kernel
theorem dX5_leave_132 : decode cX5_leave 132 = .ok (.ireturn, 1) := by decide +kernel
theorem dX5_image_0 : decode cX5_image 0 = .ok (.aload_n 0, 1) := by decide +kernel
theorem dX5_image_1 : decode cX5_image 1 = .ok (.getfield 23, 3) := by decide +kernel
theorem dX5_image_4 : decode cX5_image 4 = .ok (.aload_n 0, 1) := by decide +kernel
theorem dX5_image_5 : decode cX5_image 5 = .ok (.getfield 10, 3) := by decide +kernel
theorem dX5_image_8 : decode cX5_image 8 = .ok (.invokevirtual 140, 3) := by decide +kernel
theorem dX5_image_11 : decode cX5_image 11 = .ok (.aload_n 0, 1) := by decide +kernel
theorem dX5_image_12 : decode cX5_image 12 = .ok (.getfield 26, 3) := by decide +kernel
theorem dX5_image_15 : decode cX5_image 15 = .ok (.aload_n 0, 1) := by decide +kernel
theorem dX5_image_16 : decode cX5_image 16 = .ok (.getfield 19, 3) := by decide +kernel
theorem dX5_image_19 : decode cX5_image 19 = .ok (.invokevirtual 213, 3) := by decide +kernel
theorem dX5_image_22 : decode cX5_image 22 = .ok (.aload_n 0, 1) := by decide +kernel
theorem dX5_image_23 : decode cX5_image 23 = .ok (.iconst 1, 1) := by decide +kernel
theorem dX5_image_24 : decode cX5_image 24 = .ok (.putfield 216, 3) := by decide +kernel
theorem dX5_image_27 : decode cX5_image 27 = .ok (.iconst 1, 1) := by decide +kernel
theorem dX5_image_28 : decode cX5_image 28 = .ok (.ireturn, 1) := by decide +kernel
theorem dX5_restore_0 : decode cX5_restore 0 = .ok (.aload_n 0, 1) := by decide +kernel
theorem dX5_restore_1 : decode cX5_restore 1 = .ok (.getfield 216, 3) := by decide +kernel
theorem dX5_restore_4 : decode cX5_restore 4 = .ok (.ifCond .ne 6, 3) := by decide +kernel
theorem dX5_restore_7 : decode cX5_restore 7 = .ok (.bipush (-4), 2) := by decide +kernel
theorem dX5_restore_9 : decode cX5_restore 9 = .ok (.ireturn, 1) := by decide +kernel
theorem dX5_restore_10 : decode cX5_restore 10 = .ok (.aload_n 0, 1) := by decide +kernel
theorem dX5_restore_11 : decode cX5_restore 11 = .ok (.getfield 10, 3) := by decide +kernel
theorem dX5_restore_14 : decode cX5_restore 14 = .ok (.aload_n 0, 1) := by decide +kernel
theorem dX5_restore_15 : decode cX5_restore 15 = .ok (.getfield 23, 3) := by decide +kernel
theorem dX5_restore_18 : decode cX5_restore 18 = .ok (.invokevirtual 140, 3) := by decide +kernel
theorem dX5_restore_21 : decode cX5_restore 21 = .ok (.aload_n 0, 1) := by decide +kernel
theorem dX5_restore_22 : decode cX5_restore 22 = .ok (.getfield 19, 3) := by decide +kernel
theorem dX5_restore_25 : decode cX5_restore 25 = .ok (.aload_n 0, 1) := by decide +kernel
theorem dX5_restore_26 : decode cX5_restore 26 = .ok (.getfield 26, 3) := by decide +kernel
theorem dX5_restore_29 : decode cX5_restore 29 = .ok (.invokevirtual 213, 3) := by decide +kernel
theorem dX5_restore_32 : decode cX5_restore 32 = .ok (.iconst 1, 1) := by decide +kernel
theorem dX5_restore_33 : decode cX5_restore 33 = .ok (.ireturn, 1) := by decide +kernel
theorem dX5_grown_0 : decode cX5_grown 0 = .ok (.aload_n 0, 1) := by decide +kernel
theorem dX5_grown_1 : decode cX5_grown 1 = .ok (.iload_n 1, 1) := by decide +kernel
theorem dX5_grown_2 : decode cX5_grown 2 = .ok (.invokevirtual 78, 3) := by decide +kernel
theorem dX5_grown_5 : decode cX5_grown 5 = .ok (.ifCond .eq 17, 3) := by decide +kernel
theorem dX5_grown_8 : decode cX5_grown 8 = .ok (.iload_n 2, 1) := by decide +kernel
theorem dX5_grown_9 : decode cX5_grown 9 = .ok (.invokestatic 220, 3) := by decide +kernel
theorem dX5_grown_12 : decode cX5_grown 12 = .ok (.ifCond .eq 10, 3) := by decide +kernel
theorem dX5_grown_15 : decode cX5_grown 15 = .ok (.iload_n 3, 1) := by decide +kernel
theorem dX5_grown_16 : decode cX5_grown 16 = .ok (.invokestatic 223, 3) := by decide +kernel
theorem dX5_grown_19 : decode cX5_grown 19 = .ok (.ifCond .ne 5, 3) := by decide +kernel
theorem dX5_grown_22 : decode cX5_grown 22 = .ok (.iconst (-1), 1) := by decide +kernel
theorem dX5_grown_23 : decode cX5_grown 23 = .ok (.ireturn, 1) := by decide +kernel
theorem dX5_grown_24 : decode cX5_grown 24 = .ok (.iload 5, 2) := by decide +kernel
theorem dX5_grown_26 : decode cX5_grown 26 = .ok (.iconst 1, 1) := by decide +kernel
theorem dX5_grown_27 : decode cX5_grown 27 = .ok (.bipush 8, 2) := by decide +kernel
theorem dX5_grown_29 : decode cX5_grown 29 = .ok (.invokestatic 53, 3) := by decide +kernel
theorem dX5_grown_32 : decode cX5_grown 32 = .ok (.ifCond .eq 13, 3) := by decide +kernel
theorem dX5_grown_35 : decode cX5_grown 35 = .ok (.iload 6, 2) := by decide +kernel
theorem dX5_grown_37 : decode cX5_grown 37 = .ok (.iconst 0, 1) := by decide +kernel
theorem dX5_grown_38 : decode cX5_grown 38 = .ok (.iconst 2, 1) := by decide +kernel
theorem dX5_grown_39 : decode cX5_grown 39 = .ok (.invokestatic 53, 3) := by decide +kernel
theorem dX5_grown_42 : decode cX5_grown 42 = .ok (.ifCond .ne 5, 3) := by decide +kernel
theorem dX5_grown_45 : decode cX5_grown 45 = .ok (.iconst (-1), 1) := by decide +kernel
theorem dX5_grown_46 : decode cX5_grown 46 = .ok (.ireturn, 1) := by decide +kernel
theorem dX5_grown_47 : decode cX5_grown 47 = .ok (.aload_n 0, 1) := by decide +kernel
theorem dX5_grown_48 : decode cX5_grown 48 = .ok (.getfield 48, 3) := by decide +kernel
theorem dX5_grown_51 : decode cX5_grown 51 = .ok (.iload_n 2, 1) := by decide +kernel
theorem dX5_grown_52 : decode cX5_grown 52 = .ok (.aaload, 1) := by decide +kernel
theorem dX5_grown_53 : decode cX5_grown 53 = .ok (.astore 7, 2) := by decide +kernel
theorem dX5_grown_55 : decode cX5_grown 55 = .ok (.aload 7, 2) := by decide +kernel
theorem dX5_grown_57 : decode cX5_grown 57 = .ok (.iload_n 3, 1) := by decide +kernel
theorem dX5_grown_58 : decode cX5_grown 58 = .ok (.iload 4, 2) := by decide +kernel
theorem dX5_grown_60 : decode cX5_grown 60 = .ok (.iload 5, 2) := by decide +kernel
theorem dX5_grown_62 : decode cX5_grown 62 = .ok (.invokevirtual 226, 3) := by decide +kernel
theorem dX5_grown_65 : decode cX5_grown 65 = .ok (.istore 8, 2) := by decide +kernel
theorem dX5_grown_67 : decode cX5_grown 67 = .ok (.iload 8, 2) := by decide +kernel
theorem dX5_grown_69 : decode cX5_grown 69 = .ok (.ifCond .ge 6, 3) := by decide +kernel
theorem dX5_grown_72 : decode cX5_grown 72 = .ok (.iload 8, 2) := by decide +kernel
theorem dX5_grown_74 : decode cX5_grown 74 = .ok (.ireturn, 1) := by decide +kernel
theorem dX5_grown_75 : decode cX5_grown 75 = .ok (.iload 6, 2) := by decide +kernel
theorem dX5_grown_77 : decode cX5_grown 77 = .ok (.ifCond .ne 22, 3) := by decide +kernel
theorem dX5_grown_80 : decode cX5_grown 80 = .ok (.aload_n 0, 1) := by decide +kernel
theorem dX5_grown_81 : decode cX5_grown 81 = .ok (.getfield 32, 3) := by decide +kernel
theorem dX5_grown_84 : decode cX5_grown 84 = .ok (.aload_n 0, 1) := by decide +kernel
theorem dX5_grown_85 : decode cX5_grown 85 = .ok (.getfield 10, 3) := by decide +kernel
theorem dX5_grown_88 : decode cX5_grown 88 = .ok (.iload_n 1, 1) := by decide +kernel
theorem dX5_grown_89 : decode cX5_grown 89 = .ok (.aload 7, 2) := by decide +kernel
theorem dX5_grown_91 : decode cX5_grown 91 = .ok (.iload 4, 2) := by decide +kernel
theorem dX5_grown_93 : decode cX5_grown 93 = .ok (.iload 5, 2) := by decide +kernel
theorem dX5_grown_95 : decode cX5_grown 95 = .ok (.invokevirtual 229, 3) := by decide +kernel
theorem dX5_grown_98 : decode cX5_grown 98 = .ok (.ireturn, 1) := by decide +kernel
theorem dX5_grown_99 : decode cX5_grown 99 = .ok (.aload_n 0, 1) := by decide +kernel
theorem dX5_grown_100 : decode cX5_grown 100 = .ok (.getfield 32, 3) := by decide +kernel
theorem dX5_grown_103 : decode cX5_grown 103 = .ok (.aload_n 0, 1) := by decide +kernel
theorem dX5_grown_104 : decode cX5_grown 104 = .ok (.getfield 10, 3) := by decide +kernel
theorem dX5_grown_107 : decode cX5_grown 107 = .ok (.iload_n 1, 1) := by decide +kernel
theorem dX5_grown_108 : decode cX5_grown 108 = .ok (.aload 7, 2) := by decide +kernel
theorem dX5_grown_110 : decode cX5_grown 110 = .ok (.iload 4, 2) := by decide +kernel
theorem dX5_grown_112 : decode cX5_grown 112 = .ok (.iload 5, 2) := by decide +kernel
theorem dX5_grown_114 : decode cX5_grown 114 = .ok (.iload 6, 2) := by decide +kernel
theorem dX5_grown_116 : decode cX5_grown 116 = .ok (.iconst 2, 1) := by decide +kernel
theorem dX5_grown_117 : decode cX5_grown 117 = .ok (.if_icmp .ne 7, 3) := by decide +kernel
theorem dX5_grown_120 : decode cX5_grown 120 = .ok (.iconst 1, 1) := by decide +kernel
theorem dX5_grown_121 : decode cX5_grown 121 = .ok (.goto 4, 3) := by decide +kernel
theorem dX5_grown_124 : decode cX5_grown 124 = .ok (.iconst 0, 1) := by decide +kernel
theorem dX5_grown_125 : decode cX5_grown 125 = .ok (.invokevirtual 233, 3) := by decide +kernel
theorem dX5_grown_128 : decode cX5_grown 128 = .ok (.ireturn, 1) := by decide +kernel
theorem dX5_film_0 : decode cX5_film 0 = .ok (.aload_n 0, 1) := by decide +kernel
theorem dX5_film_1 : decode cX5_film 1 = .ok (.iload_n 1, 1) := by decide +kernel
theorem dX5_film_2 : decode cX5_film 2 = .ok (.invokevirtual 78, 3) := by decide +kernel
theorem dX5_film_5 : decode cX5_film 5 = .ok (.ifCond .eq 28, 3) := by decide +kernel
theorem dX5_film_8 : decode cX5_film 8 = .ok (.iload_n 2, 1) := by decide +kernel
theorem dX5_film_9 : decode cX5_film 9 = .ok (.iconst 1, 1) := by decide +kernel
theorem dX5_film_10 : decode cX5_film 10 = .ok (.bipush 24, 2) := by decide +kernel
theorem dX5_film_12 : decode cX5_film 12 = .ok (.invokestatic 53, 3) := by decide +kernel
theorem dX5_film_15 : decode cX5_film 15 = .ok (.ifCond .eq 18, 3) := by decide +kernel
theorem dX5_film_18 : decode cX5_film 18 = .ok (.iload_n 3, 1) := by decide +kernel
theorem dX5_film_19 : decode cX5_film 19 = .ok (.invokestatic 220, 3) := by decide +kernel
theorem dX5_film_22 : decode cX5_film 22 = .ok (.ifCond .eq 11, 3) := by decide +kernel
theorem dX5_film_25 : decode cX5_film 25 = .ok (.iload 4, 2) := by decide +kernel
theorem dX5_film_27 : decode cX5_film 27 = .ok (.invokestatic 223, 3) := by decide +kernel
theorem dX5_film_30 : decode cX5_film 30 = .ok (.ifCond .ne 5, 3) := by decide +kernel
theorem dX5_film_33 : decode cX5_film 33 = .ok (.iconst (-1), 1) := by decide +kernel
theorem dX5_film_34 : decode cX5_film 34 = .ok (.ireturn, 1) := by decide +kernel
theorem dX5_film_35 : decode cX5_film 35 = .ok (.aload_n 0, 1) := by decide +kernel
theorem dX5_film_36 : decode cX5_film 36 = .ok (.getfield 48, 3) := by decide +kernel
theorem dX5_film_39 : decode cX5_film 39 = .ok (.iload_n 3, 1) := by decide +kernel
theorem dX5_film_40 : decode cX5_film 40 = .ok (.aaload, 1) := by decide +kernel
theorem dX5_film_41 : decode cX5_film 41 = .ok (.astore 6, 2) := by decide +kernel
theorem dX5_film_43 : decode cX5_film 43 = .ok (.aload 6, 2) := by decide +kernel
theorem dX5_film_45 : decode cX5_film 45 = .ok (.iload 4, 2) := by decide +kernel
theorem dX5_film_47 : decode cX5_film 47 = .ok (.iload 5, 2) := by decide +kernel
theorem dX5_film_49 : decode cX5_film 49 = .ok (.iload_n 2, 1) := by decide +kernel
theorem dX5_film_50 : decode cX5_film 50 = .ok (.invokevirtual 226, 3) := by decide +kernel
theorem dX5_film_53 : decode cX5_film 53 = .ok (.istore 7, 2) := by decide +kernel
theorem dX5_film_55 : decode cX5_film 55 = .ok (.iload 7, 2) := by decide +kernel
theorem dX5_film_57 : decode cX5_film 57 = .ok (.ifCond .ge 6, 3) := by decide +kernel
theorem dX5_film_60 : decode cX5_film 60 = .ok (.iload 7, 2) := by decide +kernel
theorem dX5_film_62 : decode cX5_film 62 = .ok (.ireturn, 1) := by decide +kernel
theorem dX5_film_63 : decode cX5_film 63 = .ok (.aload_n 0, 1) := by decide +kernel
theorem dX5_film_64 : decode cX5_film 64 = .ok (.getfield 32, 3) := by decide +kernel
theorem dX5_film_67 : decode cX5_film 67 = .ok (.aload_n 0, 1) := by decide +kernel
theorem dX5_film_68 : decode cX5_film 68 = .ok (.getfield 10, 3) := by decide +kernel
theorem dX5_film_71 : decode cX5_film 71 = .ok (.iload_n 1, 1) := by decide +kernel
theorem dX5_film_72 : decode cX5_film 72 = .ok (.aload 6, 2) := by decide +kernel
theorem dX5_film_74 : decode cX5_film 74 = .ok (.iload 5, 2) := by decide +kernel
theorem dX5_film_76 : decode cX5_film 76 = .ok (.iload_n 2, 1) := by decide +kernel
theorem dX5_film_77 : decode cX5_film 77 = .ok (.invokevirtual 237, 3) := by decide +kernel
theorem dX5_film_80 : decode cX5_film 80 = .ok (.iload_n 2, 1) := by decide +kernel
theorem dX5_film_81 : decode cX5_film 81 = .ok (.ireturn, 1) := by decide +kernel
theorem dX5_sheet_0 : decode cX5_sheet 0 = .ok (.iload_n 1, 1) := by decide +kernel
theorem dX5_sheet_1 : decode cX5_sheet 1 = .ok (.invokestatic 220, 3) := by decide +kernel
theorem dX5_sheet_4 : decode cX5_sheet 4 = .ok (.ifCond .eq 16, 3) := by decide +kernel
theorem dX5_sheet_7 : decode cX5_sheet 7 = .ok (.iload_n 2, 1) := by decide +kernel
theorem dX5_sheet_8 : decode cX5_sheet 8 = .ok (.invokestatic 223, 3) := by decide +kernel
theorem dX5_sheet_11 : decode cX5_sheet 11 = .ok (.ifCond .eq 9, 3) := by decide +kernel
theorem dX5_sheet_14 : decode cX5_sheet 14 = .ok (.iload_n 3, 1) := by decide +kernel
theorem dX5_sheet_15 : decode cX5_sheet 15 = .ok (.bipush 24, 2) := by decide +kernel
theorem dX5_sheet_17 : decode cX5_sheet 17 = .ok (.if_icmp .le 5, 3) := by decide +kernel
theorem dX5_sheet_20 : decode cX5_sheet 20 = .ok (.iconst (-1), 1) := by decide +kernel
theorem dX5_sheet_21 : decode cX5_sheet 21 = .ok (.ireturn, 1) := by decide +kernel
theorem dX5_sheet_22 : decode cX5_sheet 22 = .ok (.iload_n 3, 1) := by decide +kernel
theorem dX5_sheet_23 : decode cX5_sheet 23 = .ok (.ifCond .ge 6, 3) := by decide +kernel
theorem dX5_sheet_26 : decode cX5_sheet 26 = .ok (.bipush (-14), 2) := by decide +kernel
theorem dX5_sheet_28 : decode cX5_sheet 28 = .ok (.ireturn, 1) := by decide +kernel
theorem dX5_sheet_29 : decode cX5_sheet 29 = .ok (.aload_n 0, 1) := by decide +kernel
theorem dX5_sheet_30 : decode cX5_sheet 30 = .ok (.getfield 48, 3) := by decide +kernel
theorem dX5_sheet_33 : decode cX5_sheet 33 = .ok (.iload_n 1, 1) := by decide +kernel
theorem dX5_sheet_34 : decode cX5_sheet 34 = .ok (.aaload, 1) := by decide +kernel
theorem dX5_sheet_35 : decode cX5_sheet 35 = .ok (.iload_n 2, 1) := by decide +kernel
theorem dX5_sheet_36 : decode cX5_sheet 36 = .ok (.iload_n 3, 1) := by decide +kernel
theorem dX5_sheet_37 : decode cX5_sheet 37 = .ok (.invokevirtual 241, 3) := by decide +kernel
theorem dX5_sheet_40 : decode cX5_sheet 40 = .ok (.iload_n 3, 1) := by decide +kernel
theorem dX5_sheet_41 : decode cX5_sheet 41 = .ok (.ireturn, 1) := by decide +kernel
theorem dX5_drop_0 : decode cX5_drop 0 = .ok (.iload_n 1, 1) := by decide +kernel
theorem dX5_drop_1 : decode cX5_drop 1 = .ok (.invokestatic 220, 3) := by decide +kernel
theorem dX5_drop_4 : decode cX5_drop 4 = .ok (.ifCond .ne 5, 3) := by decide +kernel
theorem dX5_drop_7 : decode cX5_drop 7 = .ok (.iconst (-1), 1) := by decide +kernel
theorem dX5_drop_8 : decode cX5_drop 8 = .ok (.ireturn, 1) := by decide +kernel
theorem dX5_drop_9 : decode cX5_drop 9 = .ok (.aload_n 0, 1) := by decide +kernel
theorem dX5_drop_10 : decode cX5_drop 10 = .ok (.getfield 48, 3) := by decide +kernel
theorem dX5_drop_13 : decode cX5_drop 13 = .ok (.iload_n 1, 1) := by decide +kernel
theorem dX5_drop_14 : decode cX5_drop 14 = .ok (.aaload, 1) := by decide +kernel
theorem dX5_drop_15 : decode cX5_drop 15 = .ok (.astore_n 2, 1) := by decide +kernel
theorem dX5_drop_16 : decode cX5_drop 16 = .ok (.aload_n 2, 1) := by decide +kernel
theorem dX5_drop_17 : decode cX5_drop 17 = .ok (.getfield 245, 3) := by decide +kernel
theorem dX5_drop_20 : decode cX5_drop 20 = .ok (.iconst (-1), 1) := by decide +kernel
theorem dX5_drop_21 : decode cX5_drop 21 = .ok (.if_icmp .ne 6, 3) := by decide +kernel
theorem dX5_drop_24 : decode cX5_drop 24 = .ok (.bipush (-11), 2) := by decide +kernel
theorem dX5_drop_26 : decode cX5_drop 26 = .ok (.ireturn, 1) := by decide +kernel
theorem dX5_drop_27 : decode cX5_drop 27 = .ok (.aload_n 2, 1) := by decide +kernel
theorem dX5_drop_28 : decode cX5_drop 28 = .ok (.getfield 248, 3) := by decide +kernel
theorem dX5_drop_31 : decode cX5_drop 31 = .ok (.istore_n 3, 1) := by decide +kernel
theorem dX5_drop_32 : decode cX5_drop 32 = .ok (.aload_n 2, 1) := by decide +kernel
theorem dX5_drop_33 : decode cX5_drop 33 = .ok (.invokevirtual 249, 3) := by decide +kernel
theorem dX5_drop_36 : decode cX5_drop 36 = .ok (.iload_n 3, 1) := by decide +kernel
theorem dX5_drop_37 : decode cX5_drop 37 = .ok (.ireturn, 1) := by decide +kernel
theorem dX5_item_0 : decode cX5_item 0 = .ok (.iload_n 1, 1) := by decide +kernel
theorem dX5_item_1 : decode cX5_item 1 = .ok (.invokestatic 220, 3) := by decide +kernel
theorem dX5_item_4 : decode cX5_item 4 = .ok (.ifCond .eq 10, 3) := by decide +kernel
theorem dX5_item_7 : decode cX5_item 7 = .ok (.iload_n 2, 1) := by decide +kernel
theorem dX5_item_8 : decode cX5_item 8 = .ok (.invokestatic 223, 3) := by decide +kernel
theorem dX5_item_11 : decode cX5_item 11 = .ok (.ifCond .ne 5, 3) := by decide +kernel
theorem dX5_item_14 : decode cX5_item 14 = .ok (.iconst (-1), 1) := by decide +kernel
theorem dX5_item_15 : decode cX5_item 15 = .ok (.ireturn, 1) := by decide +kernel
theorem dX5_item_16 : decode cX5_item 16 = .ok (.aload_n 0, 1) := by decide +kernel
theorem dX5_item_17 : decode cX5_item 17 = .ok (.getfield 48, 3) := by decide +kernel
theorem dX5_item_20 : decode cX5_item 20 = .ok (.iload_n 1, 1) := by decide +kernel
theorem dX5_item_21 : decode cX5_item 21 = .ok (.aaload, 1) := by decide +kernel
theorem dX5_item_22 : decode cX5_item 22 = .ok (.astore 6, 2) := by decide +kernel
theorem dX5_item_24 : decode cX5_item 24 = .ok (.aload 6, 2) := by decide +kernel
theorem dX5_item_26 : decode cX5_item 26 = .ok (.iload_n 2, 1) := by decide +kernel
theorem dX5_item_27 : decode cX5_item 27 = .ok (.iload_n 3, 1) := by decide +kernel
theorem dX5_item_28 : decode cX5_item 28 = .ok (.iconst 1, 1) := by decide +kernel
theorem dX5_item_29 : decode cX5_item 29 = .ok (.invokevirtual 226, 3) := by decide +kernel
theorem dX5_item_32 : decode cX5_item 32 = .ok (.istore 7, 2) := by decide +kernel
theorem dX5_item_34 : decode cX5_item 34 = .ok (.iload 7, 2) := by decide +kernel
theorem dX5_item_36 : decode cX5_item 36 = .ok (.ifCond .ge 6, 3) := by decide +kernel
theorem dX5_item_39 : decode cX5_item 39 = .ok (.iload 7, 2) := by decide +kernel
theorem dX5_item_41 : decode cX5_item 41 = .ok (.ireturn, 1) := by decide +kernel
theorem dX5_item_42 : decode cX5_item 42 = .ok (.aload 6, 2) := by decide +kernel
theorem dX5_item_44 : decode cX5_item 44 = .ok (.iload_n 3, 1) := by decide +kernel
theorem dX5_item_45 : decode cX5_item 45 = .ok (.lload 4, 2) := by decide +kernel
theorem dX5_item_47 : decode cX5_item 47 = .ok (.invokevirtual 252, 3) := by decide +kernel
theorem dX5_item_50 : decode cX5_item 50 = .ok (.iconst 1, 1) := by decide +kernel
theorem dX5_item_51 : decode cX5_item 51 = .ok (.ireturn, 1) := by decide +kernel
theorem dX5_copy_0 : decode cX5_copy 0 = .ok (.iload_n 1, 1) := by decide +kernel
theorem dX5_copy_1 : decode cX5_copy 1 = .ok (.invokestatic 220, 3) := by decide +kernel
theorem dX5_copy_4 : decode cX5_copy 4 = .ok (.ifCond .eq 10, 3) := by decide +kernel
theorem dX5_copy_7 : decode cX5_copy 7 = .ok (.iload_n 3, 1) := by decide +kernel
theorem dX5_copy_8 : decode cX5_copy 8 = .ok (.invokestatic 220, 3) := by decide +kernel
theorem dX5_copy_11 : decode cX5_copy 11 = .ok (.ifCond .ne 5, 3) := by decide +kernel
theorem dX5_copy_14 : decode cX5_copy 14 = .ok (.iconst (-1), 1) := by decide +kernel
theorem dX5_copy_15 : decode cX5_copy 15 = .ok (.ireturn, 1) := by decide +kernel
theorem dX5_copy_16 : decode cX5_copy 16 = .ok (.aload_n 0, 1) := by decide +kernel
theorem dX5_copy_17 : decode cX5_copy 17 = .ok (.getfield 48, 3) := by decide +kernel
theorem dX5_copy_20 : decode cX5_copy 20 = .ok (.iload_n 1, 1) := by decide +kernel
theorem dX5_copy_21 : decode cX5_copy 21 = .ok (.aaload, 1) := by decide +kernel
theorem dX5_copy_22 : decode cX5_copy 22 = .ok (.astore 6, 2) := by decide +kernel
theorem dX5_copy_24 : decode cX5_copy 24 = .ok (.aload_n 0, 1) := by decide +kernel
theorem dX5_copy_25 : decode cX5_copy 25 = .ok (.getfield 48, 3) := by decide +kernel
theorem dX5_copy_28 : decode cX5_copy 28 = .ok (.iload_n 3, 1) := by decide +kernel
theorem dX5_copy_29 : decode cX5_copy 29 = .ok (.aaload, 1) := by decide +kernel
theorem dX5_copy_30 : decode cX5_copy 30 = .ok (.astore 7, 2) := by decide +kernel
theorem dX5_copy_32 : decode cX5_copy 32 = .ok (.aload 6, 2) := by decide +kernel
theorem dX5_copy_34 : decode cX5_copy 34 = .ok (.getfield 245, 3) := by decide +kernel
theorem dX5_copy_37 : decode cX5_copy 37 = .ok (.iconst (-1), 1) := by decide +kernel
theorem dX5_copy_38 : decode cX5_copy 38 = .ok (.if_icmp .eq 12, 3) := by decide +kernel
theorem dX5_copy_41 : decode cX5_copy 41 = .ok (.aload 7, 2) := by decide +kernel
theorem dX5_copy_43 : decode cX5_copy 43 = .ok (.getfield 245, 3) := by decide +kernel
theorem dX5_copy_46 : decode cX5_copy 46 = .ok (.iconst (-1), 1) := by decide +kernel
theorem dX5_copy_47 : decode cX5_copy 47 = .ok (.if_icmp .ne 6, 3) := by decide +kernel
theorem dX5_copy_50 : decode cX5_copy 50 = .ok (.bipush (-11), 2) := by decide +kernel
theorem dX5_copy_52 : decode cX5_copy 52 = .ok (.ireturn, 1) := by decide +kernel
theorem dX5_copy_53 : decode cX5_copy 53 = .ok (.aload 6, 2) := by decide +kernel
theorem dX5_copy_55 : decode cX5_copy 55 = .ok (.getfield 245, 3) := by decide +kernel
theorem dX5_copy_58 : decode cX5_copy 58 = .ok (.aload 7, 2) := by decide +kernel
theorem dX5_copy_60 : decode cX5_copy 60 = .ok (.getfield 245, 3) := by decide +kernel
theorem dX5_copy_63 : decode cX5_copy 63 = .ok (.if_icmp .eq 6, 3) := by decide +kernel
theorem dX5_copy_66 : decode cX5_copy 66 = .ok (.bipush (-12), 2) := by decide +kernel
theorem dX5_copy_68 : decode cX5_copy 68 = .ok (.ireturn, 1) := by decide +kernel
theorem dX5_copy_69 : decode cX5_copy 69 = .ok (.aload 6, 2) := by decide +kernel
theorem dX5_copy_71 : decode cX5_copy 71 = .ok (.iload_n 2, 1) := by decide +kernel
theorem dX5_copy_72 : decode cX5_copy 72 = .ok (.iload 5, 2) := by decide +kernel
theorem dX5_copy_74 : decode cX5_copy 74 = .ok (.invokevirtual 256, 3) := by decide +kernel
theorem dX5_copy_77 : decode cX5_copy 77 = .ok (.ifCond .eq 15, 3) := by decide +kernel
theorem dX5_copy_80 : decode cX5_copy 80 = .ok (.aload 7, 2) := by decide +kernel
theorem dX5_copy_82 : decode cX5_copy 82 = .ok (.iload 4, 2) := by decide +kernel
theorem dX5_copy_84 : decode cX5_copy 84 = .ok (.iload 5, 2) := by decide +kernel
theorem dX5_copy_86 : decode cX5_copy 86 = .ok (.invokevirtual 256, 3) := by decide +kernel
theorem dX5_copy_89 : decode cX5_copy 89 = .ok (.ifCond .ne 6, 3) := by decide +kernel
theorem dX5_copy_92 : decode cX5_copy 92 = .ok (.bipush (-13), 2) := by decide +kernel
theorem dX5_copy_94 : decode cX5_copy 94 = .ok (.ireturn, 1) := by decide +kernel
theorem dX5_copy_95 : decode cX5_copy 95 = .ok (.aload 6, 2) := by decide +kernel
theorem dX5_copy_97 : decode cX5_copy 97 = .ok (.getfield 259, 3) := by decide +kernel
theorem dX5_copy_100 : decode cX5_copy 100 = .ok (.iload_n 2, 1) := by decide +kernel
theorem dX5_copy_101 : decode cX5_copy 101 = .ok (.aload 7, 2) := by decide +kernel
theorem dX5_copy_103 : decode cX5_copy 103 = .ok (.getfield 259, 3) := by decide +kernel
theorem dX5_copy_106 : decode cX5_copy 106 = .ok (.iload 4, 2) := by decide +kernel
theorem dX5_copy_108 : decode cX5_copy 108 = .ok (.iload 5, 2) := by decide +kernel
theorem dX5_copy_110 : decode cX5_copy 110 = .ok (.invokestatic 263, 3) := by decide +kernel
theorem dX5_copy_113 : decode cX5_copy 113 = .ok (.iload 5, 2) := by decide +kernel
theorem dX5_copy_115 : decode cX5_copy 115 = .ok (.ireturn, 1) := by decide +kernel
theorem dX5_spend_0 : decode cX5_spend 0 = .ok (.iload_n 1, 1) := by decide +kernel
theorem dX5_spend_1 : decode cX5_spend 1 = .ok (.iconst 1, 1) := by decide +kernel
theorem dX5_spend_2 : decode cX5_spend 2 = .ok (.bipush 40, 2) := by decide +kernel
theorem dX5_spend_4 : decode cX5_spend 4 = .ok (.invokestatic 53, 3) := by decide +kernel
theorem dX5_spend_7 : decode cX5_spend 7 = .ok (.ifCond .ne 5, 3) := by decide +kernel
theorem dX5_spend_10 : decode cX5_spend 10 = .ok (.iconst (-1), 1) := by decide +kernel
theorem dX5_spend_11 : decode cX5_spend 11 = .ok (.ireturn, 1) := by decide +kernel
theorem dX5_spend_12 : decode cX5_spend 12 = .ok (.aload_n 0, 1) := by decide +kernel
theorem dX5_spend_13 : decode cX5_spend 13 = .ok (.getfield 10, 3) := by decide +kernel
theorem dX5_spend_16 : decode cX5_spend 16 = .ok (.getfield 144, 3) := by decide +kernel
theorem dX5_spend_19 : decode cX5_spend 19 = .ok (.sipush 9999, 3) := by decide +kernel
theorem dX5_spend_22 : decode cX5_spend 22 = .ok (.iload_n 1, 1) := by decide +kernel
theorem dX5_spend_23 : decode cX5_spend 23 = .ok (.isub, 1) := by decide +kernel
theorem dX5_spend_24 : decode cX5_spend 24 = .ok (.if_icmp .le 6, 3) := by decide +kernel
theorem dX5_spend_27 : decode cX5_spend 27 = .ok (.bipush (-3), 2) := by decide +kernel
theorem dX5_spend_29 : decode cX5_spend 29 = .ok (.ireturn, 1) := by decide +kernel
theorem dX5_spend_30 : decode cX5_spend 30 = .ok (.iconst 0, 1) := by decide +kernel
theorem dX5_spend_31 : decode cX5_spend 31 = .ok (.istore_n 3, 1) := by decide +kernel
theorem dX5_spend_32 : decode cX5_spend 32 = .ok (.iload_n 3, 1) := by decide +kernel
theorem dX5_spend_33 : decode cX5_spend 33 = .ok (.iload_n 1, 1) := by decide +kernel
theorem dX5_spend_34 : decode cX5_spend 34 = .ok (.if_icmp .ge 39, 3) := by decide +kernel
theorem dX5_spend_37 : decode cX5_spend 37 = .ok (.aload_n 0, 1) := by decide +kernel
theorem dX5_spend_38 : decode cX5_spend 38 = .ok (.getfield 19, 3) := by decide +kernel
theorem dX5_spend_41 : decode cX5_spend 41 = .ok (.aload_n 0, 1) := by decide +kernel
theorem dX5_spend_42 : decode cX5_spend 42 = .ok (.getfield 10, 3) := by decide +kernel
theorem dX5_spend_45 : decode cX5_spend 45 = .ok (.invokevirtual 158, 3) := by decide +kernel
theorem dX5_spend_48 : decode cX5_spend 48 = .ok (.iload_n 2, 1) := by decide +kernel
theorem dX5_spend_49 : decode cX5_spend 49 = .ok (.ifCond .eq 10, 3) := by decide +kernel
theorem dX5_spend_52 : decode cX5_spend 52 = .ok (.aload_n 0, 1) := by decide +kernel
theorem dX5_spend_53 : decode cX5_spend 53 = .ok (.getfield 10, 3) := by decide +kernel
theorem dX5_spend_56 : decode cX5_spend 56 = .ok (.invokevirtual 269, 3) := by decide +kernel
theorem dX5_spend_59 : decode cX5_spend 59 = .ok (.aload_n 0, 1) := by decide +kernel
theorem dX5_spend_60 : decode cX5_spend 60 = .ok (.getfield 10, 3) := by decide +kernel
theorem dX5_spend_63 : decode cX5_spend 63 = .ok (.iconst 0, 1) := by decide +kernel
theorem dX5_spend_64 : decode cX5_spend 64 = .ok (.invokevirtual 272, 3) := by decide +kernel
theorem dX5_spend_67 : decode cX5_spend 67 = .ok (.iinc 3 1, 3) := by decide +kernel
theorem dX5_spend_70 : decode cX5_spend 70 = .ok (.goto (-38), 3) := by decide +kernel
theorem dX5_spend_73 : decode cX5_spend 73 = .ok (.aload_n 0, 1) := by decide +kernel
theorem dX5_spend_74 : decode cX5_spend 74 = .ok (.getfield 10, 3) := by decide +kernel
theorem dX5_spend_77 : decode cX5_spend 77 = .ok (.getfield 102, 3) := by decide +kernel
theorem dX5_spend_80 : decode cX5_spend 80 = .ok (.ireturn, 1) := by decide +kernel
theorem dX5_isApprentice_0 : decode cX5_isApprentice 0 = .ok (.iload_n 1, 1) := by decide +kernel
theorem dX5_isApprentice_1 : decode cX5_isApprentice 1 = .ok (.ifCond .lt 18, 3) := by decide +kernel
theorem dX5_isApprentice_4 : decode cX5_isApprentice 4 = .ok (.iload_n 1, 1) := by decide +kernel
theorem dX5_isApprentice_5 : decode cX5_isApprentice 5 = .ok (.aload_n 0, 1) := by decide +kernel
theorem dX5_isApprentice_6 : decode cX5_isApprentice 6 = .ok (.getfield 10, 3) := by decide +kernel
theorem dX5_isApprentice_9 : decode cX5_isApprentice 9 = .ok (.getfield 57, 3) := by decide +kernel
theorem dX5_isApprentice_12 : decode cX5_isApprentice 12 = .ok (.if_icmp .ge 7, 3) := by decide +kernel
theorem dX5_isApprentice_15 : decode cX5_isApprentice 15 = .ok (.iconst 1, 1) := by decide +kernel
theorem dX5_isApprentice_16 : decode cX5_isApprentice 16 = .ok (.goto 4, 3) := by decide +kernel
theorem dX5_isApprentice_19 : decode cX5_isApprentice 19 = .ok (.iconst 0, 1) := by decide +kernel
theorem dX5_isApprentice_20 : decode cX5_isApprentice 20 = .ok (.ireturn, 1) := by decide +kernel
theorem dX5_isThief_0 : decode cX5_isThief 0 = .ok (.iload_n 1, 1) := by decide +kernel
theorem dX5_isThief_1 : decode cX5_isThief 1 = .ok (.ifCond .lt 18, 3) := by decide +kernel
theorem dX5_isThief_4 : decode cX5_isThief 4 = .ok (.iload_n 1, 1) := by decide +kernel
theorem dX5_isThief_5 : decode cX5_isThief 5 = .ok (.aload_n 0, 1) := by decide +kernel
theorem dX5_isThief_6 : decode cX5_isThief 6 = .ok (.getfield 10, 3) := by decide +kernel
theorem dX5_isThief_9 : decode cX5_isThief 9 = .ok (.getfield 68, 3) := by decide +kernel
theorem dX5_isThief_12 : decode cX5_isThief 12 = .ok (.if_icmp .ge 7, 3) := by decide +kernel
theorem dX5_isThief_15 : decode cX5_isThief 15 = .ok (.iconst 1, 1) := by decide +kernel
theorem dX5_isThief_16 : decode cX5_isThief 16 = .ok (.goto 4, 3) := by decide +kernel
theorem dX5_isThief_19 : decode cX5_isThief 19 = .ok (.iconst 0, 1) := by decide +kernel
theorem dX5_isThief_20 : decode cX5_isThief 20 = .ok (.ireturn, 1) := by decide +kernel
theorem dX5_isSheet_0 : decode cX5_isSheet 0 = .ok (.iload_n 0, 1) := by decide +kernel
theorem dX5_isSheet_1 : decode cX5_isSheet 1 = .ok (.ifCond .lt 12, 3) := by decide +kernel
theorem dX5_isSheet_4 : decode cX5_isSheet 4 = .ok (.iload_n 0, 1) := by decide +kernel
theorem dX5_isSheet_5 : decode cX5_isSheet 5 = .ok (.iconst 4, 1) := by decide +kernel
theorem dX5_isSheet_6 : decode cX5_isSheet 6 = .ok (.if_icmp .ge 7, 3) := by decide +kernel
theorem dX5_isSheet_9 : decode cX5_isSheet 9 = .ok (.iconst 1, 1) := by decide +kernel
theorem dX5_isSheet_10 : decode cX5_isSheet 10 = .ok (.goto 4, 3) := by decide +kernel
theorem dX5_isSheet_13 : decode cX5_isSheet 13 = .ok (.iconst 0, 1) := by decide +kernel
theorem dX5_isSheet_14 : decode cX5_isSheet 14 = .ok (.ireturn, 1) := by decide +kernel
theorem dX5_isLane_0 : decode cX5_isLane 0 = .ok (.iload_n 0, 1) := by decide +kernel
theorem dX5_isLane_1 : decode cX5_isLane 1 = .ok (.ifCond .lt 12, 3) := by decide +kernel
theorem dX5_isLane_4 : decode cX5_isLane 4 = .ok (.iload_n 0, 1) := by decide +kernel
theorem dX5_isLane_5 : decode cX5_isLane 5 = .ok (.iconst 4, 1) := by decide +kernel
theorem dX5_isLane_6 : decode cX5_isLane 6 = .ok (.if_icmp .ge 7, 3) := by decide +kernel
theorem dX5_isLane_9 : decode cX5_isLane 9 = .ok (.iconst 1, 1) := by decide +kernel
theorem dX5_isLane_10 : decode cX5_isLane 10 = .ok (.goto 4, 3) := by decide +kernel
theorem dX5_isLane_13 : decode cX5_isLane 13 = .ok (.iconst 0, 1) := by decide +kernel
theorem dX5_isLane_14 : decode cX5_isLane 14 = .ok (.ireturn, 1) := by decide +kernel
theorem dX5_isWithin_0 : decode cX5_isWithin 0 = .ok (.iload_n 0, 1) := by decide +kernel
theorem dX5_isWithin_1 : decode cX5_isWithin 1 = .ok (.iload_n 1, 1) := by decide +kernel
theorem dX5_isWithin_2 : decode cX5_isWithin 2 = .ok (.if_icmp .lt 12, 3) := by decide +kernel
theorem dX5_isWithin_5 : decode cX5_isWithin 5 = .ok (.iload_n 0, 1) := by decide +kernel
theorem dX5_isWithin_6 : decode cX5_isWithin 6 = .ok (.iload_n 2, 1) := by decide +kernel
theorem dX5_isWithin_7 : decode cX5_isWithin 7 = .ok (.if_icmp .gt 7, 3) := by decide +kernel
theorem dX5_isWithin_10 : decode cX5_isWithin 10 = .ok (.iconst 1, 1) := by decide +kernel
theorem dX5_isWithin_11 : decode cX5_isWithin 11 = .ok (.goto 4, 3) := by decide +kernel
theorem dX5_isWithin_14 : decode cX5_isWithin 14 = .ok (.iconst 0, 1) := by decide +kernel
theorem dX5_isWithin_15 : decode cX5_isWithin 15 = .ok (.ireturn, 1) := by decide +kernel
theorem dX5_has_0 : decode cX5_has 0 = .ok (.iload_n 0, 1) := by decide +kernel
theorem dX5_has_1 : decode cX5_has 1 = .ok (.iload_n 1, 1) := by decide +kernel
theorem dX5_has_2 : decode cX5_has 2 = .ok (.ishr, 1) := by decide +kernel
theorem dX5_has_3 : decode cX5_has 3 = .ok (.iconst 1, 1) := by decide +kernel
theorem dX5_has_4 : decode cX5_has 4 = .ok (.iand, 1) := by decide +kernel
theorem dX5_has_5 : decode cX5_has 5 = .ok (.iconst 1, 1) := by decide +kernel
theorem dX5_has_6 : decode cX5_has 6 = .ok (.if_icmp .ne 7, 3) := by decide +kernel
theorem dX5_has_9 : decode cX5_has 9 = .ok (.iconst 1, 1) := by decide +kernel
theorem dX5_has_10 : decode cX5_has 10 = .ok (.goto 4, 3) := by decide +kernel
theorem dX5_has_13 : decode cX5_has 13 = .ok (.iconst 0, 1) := by decide +kernel
theorem dX5_has_14 : decode cX5_has 14 = .ok (.ireturn, 1) := by decide +kernel
theorem dX5_power_0 : decode cX5_power 0 = .ok (.iconst 1, 1) := by decide +kernel
theorem dX5_power_1 : decode cX5_power 1 = .ok (.istore_n 2, 1) := by decide +kernel
theorem dX5_power_2 : decode cX5_power 2 = .ok (.iconst 0, 1) := by decide +kernel
theorem dX5_power_3 : decode cX5_power 3 = .ok (.istore_n 3, 1) := by decide +kernel
theorem dX5_power_4 : decode cX5_power 4 = .ok (.iload_n 3, 1) := by decide +kernel
theorem dX5_power_5 : decode cX5_power 5 = .ok (.iload_n 1, 1) := by decide +kernel
theorem dX5_power_6 : decode cX5_power 6 = .ok (.if_icmp .ge 18, 3) := by decide +kernel
theorem dX5_power_9 : decode cX5_power 9 = .ok (.iload_n 3, 1) := by decide +kernel
theorem dX5_power_10 : decode cX5_power 10 = .ok (.iconst 4, 1) := by decide +kernel
theorem dX5_power_11 : decode cX5_power 11 = .ok (.if_icmp .ge 13, 3) := by decide +kernel
theorem dX5_power_14 : decode cX5_power 14 = .ok (.iload_n 2, 1) := by decide +kernel
theorem dX5_power_15 : decode cX5_power 15 = .ok (.iload_n 0, 1) := by decide +kernel
theorem dX5_power_16 : decode cX5_power 16 = .ok (.imul, 1) := by decide +kernel
theorem dX5_power_17 : decode cX5_power 17 = .ok (.istore_n 2, 1) := by decide +kernel
theorem dX5_power_18 : decode cX5_power 18 = .ok (.iinc 3 1, 3) := by decide +kernel
theorem dX5_power_21 : decode cX5_power 21 = .ok (.goto (-17), 3) := by decide +kernel
theorem dX5_power_24 : decode cX5_power 24 = .ok (.iload_n 2, 1) := by decide +kernel
theorem dX5_power_25 : decode cX5_power 25 = .ok (.ireturn, 1) := by decide +kernel
theorem dX6_init_0 : decode cX6_init 0 = .ok (.aload_n 0, 1) := by decide +kernel
theorem dX6_init_1 : decode cX6_init 1 = .ok (.invokespecial 1, 3) := by decide +kernel
theorem dX6_init_4 : decode cX6_init 4 = .ok (.aload_n 0, 1) := by decide +kernel
theorem dX6_init_5 : decode cX6_init 5 = .ok (.iconst 4, 1) := by decide +kernel
theorem dX6_init_6 : decode cX6_init 6 = .ok (.newarray .int, 2) := by decide +kernel
theorem dX6_init_8 : decode cX6_init 8 = .ok (.putfield 7, 3) := by decide +kernel
theorem dX6_init_11 : decode cX6_init 11 = .ok (.aload_n 0, 1) := by decide +kernel
theorem dX6_init_12 : decode cX6_init 12 = .ok (.iconst 4, 1) := by decide +kernel
theorem dX6_init_13 : decode cX6_init 13 = .ok (.newarray .int, 2) := by decide +kernel
theorem dX6_init_15 : decode cX6_init 15 = .ok (.putfield 13, 3) := by decide +kernel
theorem dX6_init_18 : decode cX6_init 18 = .ok (.aload_n 0, 1) := by decide +kernel
theorem dX6_init_19 : decode cX6_init 19 = .ok (.bipush 96, 2) := by decide +kernel
theorem dX6_init_21 : decode cX6_init 21 = .ok (.newarray .long, 2) := by decide +kernel
theorem dX6_init_23 : decode cX6_init 23 = .ok (.putfield 16, 3) := by decide +kernel
theorem dX6_init_26 : decode cX6_init 26 = .ok (.aload_n 0, 1) := by decide +kernel
theorem dX6_init_27 : decode cX6_init 27 = .ok (.bipush 80, 2) := by decide +kernel
theorem dX6_init_29 : decode cX6_init 29 = .ok (.newarray .int, 2) := by decide +kernel
theorem dX6_init_31 : decode cX6_init 31 = .ok (.putfield 20, 3) := by decide +kernel
theorem dX6_init_34 : decode cX6_init 34 = .ok (.aload_n 0, 1) := by decide +kernel
theorem dX6_init_35 : decode cX6_init 35 = .ok (.sipush 216, 3) := by decide +kernel
theorem dX6_init_38 : decode cX6_init 38 = .ok (.newarray .int, 2) := by decide +kernel
theorem dX6_init_40 : decode cX6_init 40 = .ok (.putfield 23, 3) := by decide +kernel
theorem dX6_init_43 : decode cX6_init 43 = .ok (.aload_n 0, 1) := by decide +kernel
theorem dX6_init_44 : decode cX6_init 44 = .ok (.sipush 216, 3) := by decide +kernel
theorem dX6_init_47 : decode cX6_init 47 = .ok (.newarray .int, 2) := by decide +kernel
theorem dX6_init_49 : decode cX6_init 49 = .ok (.putfield 26, 3) := by decide +kernel
theorem dX6_init_52 : decode cX6_init 52 = .ok (.aload_n 0, 1) := by decide +kernel
theorem dX6_init_53 : decode cX6_init 53 = .ok (.sipush 216, 3) := by decide +kernel
theorem dX6_init_56 : decode cX6_init 56 = .ok (.newarray .int, 2) := by decide +kernel
theorem dX6_init_58 : decode cX6_init 58 = .ok (.putfield 29, 3) := by decide +kernel
theorem dX6_init_61 : decode cX6_init 61 = .ok (.aload_n 0, 1) := by decide +kernel
theorem dX6_init_62 : decode cX6_init 62 = .ok (.sipush 216, 3) := by decide +kernel
theorem dX6_init_65 : decode cX6_init 65 = .ok (.newarray .int, 2) := by decide +kernel
theorem dX6_init_67 : decode cX6_init 67 = .ok (.putfield 32, 3) := by decide +kernel
theorem dX6_init_70 : decode cX6_init 70 = .ok (.aload_n 0, 1) := by decide +kernel
theorem dX6_init_71 : decode cX6_init 71 = .ok (.iconst 4, 1) := by decide +kernel
theorem dX6_init_72 : decode cX6_init 72 = .ok (.newarray .int, 2) := by decide +kernel
theorem dX6_init_74 : decode cX6_init 74 = .ok (.putfield 35, 3) := by decide +kernel
theorem dX6_init_77 : decode cX6_init 77 = .ok (.iconst 0, 1) := by decide +kernel
theorem dX6_init_78 : decode cX6_init 78 = .ok (.istore_n 1, 1) := by decide +kernel
theorem dX6_init_79 : decode cX6_init 79 = .ok (.iload_n 1, 1) := by decide +kernel
theorem dX6_init_80 : decode cX6_init 80 = .ok (.iconst 4, 1) := by decide +kernel
theorem dX6_init_81 : decode cX6_init 81 = .ok (.if_icmp .ge 16, 3) := by decide +kernel
theorem dX6_init_84 : decode cX6_init 84 = .ok (.aload_n 0, 1) := by decide +kernel
theorem dX6_init_85 : decode cX6_init 85 = .ok (.getfield 7, 3) := by decide +kernel
theorem dX6_init_88 : decode cX6_init 88 = .ok (.iload_n 1, 1) := by decide +kernel
theorem dX6_init_89 : decode cX6_init 89 = .ok (.iconst (-1), 1) := by decide +kernel
theorem dX6_init_90 : decode cX6_init 90 = .ok (.iastore, 1) := by decide +kernel
theorem dX6_init_91 : decode cX6_init 91 = .ok (.iinc 1 1, 3) := by decide +kernel
theorem dX6_init_94 : decode cX6_init 94 = .ok (.goto (-15), 3) := by decide +kernel
theorem dX6_init_97 : decode cX6_init 97 = .ok (.aload_n 0, 1) := by decide +kernel
theorem dX6_init_98 : decode cX6_init 98 = .ok (.getfield 23, 3) := by decide +kernel
theorem dX6_init_101 : decode cX6_init 101 = .ok (.iconst 1, 1) := by decide +kernel
theorem dX6_init_102 : decode cX6_init 102 = .ok (.iconst 1, 1) := by decide +kernel
theorem dX6_init_103 : decode cX6_init 103 = .ok (.iastore, 1) := by decide +kernel
theorem dX6_init_104 : decode cX6_init 104 = .ok (.aload_n 0, 1) := by decide +kernel
theorem dX6_init_105 : decode cX6_init 105 = .ok (.getfield 23, 3) := by decide +kernel
theorem dX6_init_108 : decode cX6_init 108 = .ok (.bipush 22, 2) := by decide +kernel
theorem dX6_init_110 : decode cX6_init 110 = .ok (.bipush 10, 2) := by decide +kernel
theorem dX6_init_112 : decode cX6_init 112 = .ok (.iastore, 1) := by decide +kernel
theorem dX6_init_113 : decode cX6_init 113 = .ok (.return_, 1) := by decide +kernel
theorem dX6_in_0 : decode cX6_in 0 = .ok (.iload_n 0, 1) := by decide +kernel
theorem dX6_in_1 : decode cX6_in 1 = .ok (.iload_n 1, 1) := by decide +kernel
theorem dX6_in_2 : decode cX6_in 2 = .ok (.if_icmp .lt 12, 3) := by decide +kernel
theorem dX6_in_5 : decode cX6_in 5 = .ok (.iload_n 0, 1) := by decide +kernel
theorem dX6_in_6 : decode cX6_in 6 = .ok (.iload_n 2, 1) := by decide +kernel
theorem dX6_in_7 : decode cX6_in 7 = .ok (.if_icmp .gt 7, 3) := by decide +kernel
theorem dX6_in_10 : decode cX6_in 10 = .ok (.iconst 1, 1) := by decide +kernel
theorem dX6_in_11 : decode cX6_in 11 = .ok (.goto 4, 3) := by decide +kernel
theorem dX6_in_14 : decode cX6_in 14 = .ok (.iconst 0, 1) := by decide +kernel
theorem dX6_in_15 : decode cX6_in 15 = .ok (.ireturn, 1) := by decide +kernel
theorem dX6_has_0 : decode cX6_has 0 = .ok (.iload_n 0, 1) := by decide +kernel
theorem dX6_has_1 : decode cX6_has 1 = .ok (.iload_n 1, 1) := by decide +kernel
theorem dX6_has_2 : decode cX6_has 2 = .ok (.ishr, 1) := by decide +kernel
theorem dX6_has_3 : decode cX6_has 3 = .ok (.iconst 1, 1) := by decide +kernel
theorem dX6_has_4 : decode cX6_has 4 = .ok (.iand, 1) := by decide +kernel
theorem dX6_has_5 : decode cX6_has 5 = .ok (.iconst 1, 1) := by decide +kernel
theorem dX6_has_6 : decode cX6_has 6 = .ok (.if_icmp .ne 7, 3) := by decide +kernel
theorem dX6_has_9 : decode cX6_has 9 = .ok (.iconst 1, 1) := by decide +kernel
theorem dX6_has_10 : decode cX6_has 10 = .ok (.goto 4, 3) := by decide +kernel
theorem dX6_has_13 : decode cX6_has 13 = .ok (.iconst 0, 1) := by decide +kernel
theorem dX6_has_14 : decode cX6_has 14 = .ok (.ireturn, 1) := by decide +kernel
theorem dX6_bits_0 : decode cX6_bits 0 = .ok (.iconst 0, 1) := by decide +kernel
theorem dX6_bits_1 : decode cX6_bits 1 = .ok (.istore_n 1, 1) := by decide +kernel
theorem dX6_bits_2 : decode cX6_bits 2 = .ok (.iconst 0, 1) := by decide +kernel
theorem dX6_bits_3 : decode cX6_bits 3 = .ok (.istore_n 2, 1) := by decide +kernel
theorem dX6_bits_4 : decode cX6_bits 4 = .ok (.iload_n 2, 1) := by decide +kernel
theorem dX6_bits_5 : decode cX6_bits 5 = .ok (.bipush 6, 2) := by decide +kernel
theorem dX6_bits_7 : decode cX6_bits 7 = .ok (.if_icmp .ge 17, 3) := by decide +kernel
theorem dX6_bits_10 : decode cX6_bits 10 = .ok (.iload_n 1, 1) := by decide +kernel
theorem dX6_bits_11 : decode cX6_bits 11 = .ok (.iload_n 0, 1) := by decide +kernel
theorem dX6_bits_12 : decode cX6_bits 12 = .ok (.iload_n 2, 1) := by decide +kernel
theorem dX6_bits_13 : decode cX6_bits 13 = .ok (.ishr, 1) := by decide +kernel
theorem dX6_bits_14 : decode cX6_bits 14 = .ok (.iconst 1, 1) := by decide +kernel
theorem dX6_bits_15 : decode cX6_bits 15 = .ok (.iand, 1) := by decide +kernel
theorem dX6_bits_16 : decode cX6_bits 16 = .ok (.iadd, 1) := by decide +kernel
theorem dX6_bits_17 : decode cX6_bits 17 = .ok (.istore_n 1, 1) := by decide +kernel
theorem dX6_bits_18 : decode cX6_bits 18 = .ok (.iinc 2 1, 3) := by decide +kernel
theorem dX6_bits_21 : decode cX6_bits 21 = .ok (.goto (-17), 3) := by decide +kernel
theorem dX6_bits_24 : decode cX6_bits 24 = .ok (.iload_n 1, 1) := by decide +kernel
theorem dX6_bits_25 : decode cX6_bits 25 = .ok (.ireturn, 1) := by decide +kernel
theorem dX6_bring_0 : decode cX6_bring 0 = .ok (.iconst 0, 1) := by decide +kernel
theorem dX6_bring_1 : decode cX6_bring 1 = .ok (.istore 5, 2) := by decide +kernel
theorem dX6_bring_3 : decode cX6_bring 3 = .ok (.iload 5, 2) := by decide +kernel
theorem dX6_bring_5 : decode cX6_bring 5 = .ok (.iload 4, 2) := by decide +kernel
theorem dX6_bring_7 : decode cX6_bring 7 = .ok (.if_icmp .ge 21, 3) := by decide +kernel
theorem dX6_bring_10 : decode cX6_bring 10 = .ok (.aload_n 2, 1) := by decide +kernel
theorem dX6_bring_11 : decode cX6_bring 11 = .ok (.iload_n 3, 1) := by decide +kernel
theorem dX6_bring_12 : decode cX6_bring 12 = .ok (.iload 5, 2) := by decide +kernel
theorem dX6_bring_14 : decode cX6_bring 14 = .ok (.iadd, 1) := by decide +kernel
theorem dX6_bring_15 : decode cX6_bring 15 = .ok (.aload_n 0, 1) := by decide +kernel
theorem dX6_bring_16 : decode cX6_bring 16 = .ok (.iload_n 1, 1) := by decide +kernel
theorem dX6_bring_17 : decode cX6_bring 17 = .ok (.iload 5, 2) := by decide +kernel
theorem dX6_bring_19 : decode cX6_bring 19 = .ok (.iadd, 1) := by decide +kernel
theorem dX6_bring_20 : decode cX6_bring 20 = .ok (.iaload, 1) := by decide +kernel
theorem dX6_bring_21 : decode cX6_bring 21 = .ok (.iastore, 1) := by decide +kernel
theorem dX6_bring_22 : decode cX6_bring 22 = .ok (.iinc 5 1, 3) := by decide +kernel
theorem dX6_bring_25 : decode cX6_bring 25 = .ok (.goto (-22), 3) := by decide +kernel
theorem dX6_bring_28 : decode cX6_bring 28 = .ok (.return_, 1) := by decide +kernel
theorem dX6_isOne_0 : decode cX6_isOne 0 = .ok (.iload_n 1, 1) := by decide +kernel
theorem dX6_isOne_1 : decode cX6_isOne 1 = .ok (.iconst 0, 1) := by decide +kernel
theorem dX6_isOne_2 : decode cX6_isOne 2 = .ok (.aload_n 0, 1) := by decide +kernel
theorem dX6_isOne_3 : decode cX6_isOne 3 = .ok (.getfield 23, 3) := by decide +kernel
theorem dX6_isOne_6 : decode cX6_isOne 6 = .ok (.bipush 23, 2) := by decide +kernel
theorem dX6_isOne_8 : decode cX6_isOne 8 = .ok (.iaload, 1) := by decide +kernel
theorem dX6_isOne_9 : decode cX6_isOne 9 = .ok (.iconst 1, 1) := by decide +kernel
theorem dX6_isOne_10 : decode cX6_isOne 10 = .ok (.isub, 1) := by decide +kernel
theorem dX6_isOne_11 : decode cX6_isOne 11 = .ok (.invokestatic 38, 3) := by decide +kernel
theorem dX6_isOne_14 : decode cX6_isOne 14 = .ok (.ireturn, 1) := by decide +kernel
theorem dX6_isThief_0 : decode cX6_isThief 0 = .ok (.iload_n 1, 1) := by decide +kernel
theorem dX6_isThief_1 : decode cX6_isThief 1 = .ok (.iconst 0, 1) := by decide +kernel
theorem dX6_isThief_2 : decode cX6_isThief 2 = .ok (.aload_n 0, 1) := by decide +kernel
theorem dX6_isThief_3 : decode cX6_isThief 3 = .ok (.getfield 23, 3) := by decide +kernel
theorem dX6_isThief_6 : decode cX6_isThief 6 = .ok (.bipush 30, 2) := by decide +kernel
theorem dX6_isThief_8 : decode cX6_isThief 8 = .ok (.iaload, 1) := by decide +kernel
theorem dX6_isThief_9 : decode cX6_isThief 9 = .ok (.iconst 1, 1) := by decide +kernel
theorem dX6_isThief_10 : decode cX6_isThief 10 = .ok (.isub, 1) := by decide +kernel
theorem dX6_isThief_11 : decode cX6_isThief 11 = .ok (.invokestatic 38, 3) := by decide +kernel
theorem dX6_isThief_14 : decode cX6_isThief 14 = .ok (.ireturn, 1) := by decide +kernel
theorem dX6_addOne_0 : decode cX6_addOne 0 = .ok (.aload_n 0, 1) := by decide +kernel
theorem dX6_addOne_1 : decode cX6_addOne 1 = .ok (.bipush 23, 2) := by decide +kernel
theorem dX6_addOne_3 : decode cX6_addOne 3 = .ok (.iaload, 1) := by decide +kernel
theorem dX6_addOne_4 : decode cX6_addOne 4 = .ok (.istore 4, 2) := by decide +kernel
theorem dX6_addOne_6 : decode cX6_addOne 6 = .ok (.aload_n 0, 1) := by decide +kernel
theorem dX6_addOne_7 : decode cX6_addOne 7 = .ok (.bipush 24, 2) := by decide +kernel
theorem dX6_addOne_9 : decode cX6_addOne 9 = .ok (.iload 4, 2) := by decide +kernel
theorem dX6_addOne_11 : decode cX6_addOne 11 = .ok (.iadd, 1) := by decide +kernel
theorem dX6_addOne_12 : decode cX6_addOne 12 = .ok (.iload_n 1, 1) := by decide +kernel
theorem dX6_addOne_13 : decode cX6_addOne 13 = .ok (.iastore, 1) := by decide +kernel
theorem dX6_addOne_14 : decode cX6_addOne 14 = .ok (.aload_n 0, 1) := by decide +kernel
theorem dX6_addOne_15 : decode cX6_addOne 15 = .ok (.bipush 8, 2) := by decide +kernel
theorem dX6_addOne_17 : decode cX6_addOne 17 = .ok (.iload 4, 2) := by decide +kernel
theorem dX6_addOne_19 : decode cX6_addOne 19 = .ok (.iadd, 1) := by decide +kernel
theorem dX6_addOne_20 : decode cX6_addOne 20 = .ok (.iload_n 2, 1) := by decide +kernel
theorem dX6_addOne_21 : decode cX6_addOne 21 = .ok (.iastore, 1) := by decide +kernel
theorem dX6_addOne_22 : decode cX6_addOne 22 = .ok (.aload_n 0, 1) := by decide +kernel
theorem dX6_addOne_23 : decode cX6_addOne 23 = .ok (.bipush 14, 2) := by decide +kernel
theorem dX6_addOne_25 : decode cX6_addOne 25 = .ok (.iload 4, 2) := by decide +kernel
theorem dX6_addOne_27 : decode cX6_addOne 27 = .ok (.iadd, 1) := by decide +kernel
theorem dX6_addOne_28 : decode cX6_addOne 28 = .ok (.iload_n 3, 1) := by decide +kernel
theorem dX6_addOne_29 : decode cX6_addOne 29 = .ok (.iastore, 1) := by decide +kernel
theorem dX6_addOne_30 : decode cX6_addOne 30 = .ok (.aload_n 0, 1) := by decide +kernel
theorem dX6_addOne_31 : decode cX6_addOne 31 = .ok (.iconst 2, 1) := by decide +kernel
theorem dX6_addOne_32 : decode cX6_addOne 32 = .ok (.iload 4, 2) := by decide +kernel
theorem dX6_addOne_34 : decode cX6_addOne 34 = .ok (.iadd, 1) := by decide +kernel
theorem dX6_addOne_35 : decode cX6_addOne 35 = .ok (.iconst 0, 1) := by decide +kernel
theorem dX6_addOne_36 : decode cX6_addOne 36 = .ok (.iastore, 1) := by decide +kernel
theorem dX6_addOne_37 : decode cX6_addOne 37 = .ok (.aload_n 0, 1) := by decide +kernel
theorem dX6_addOne_38 : decode cX6_addOne 38 = .ok (.bipush 20, 2) := by decide +kernel
theorem dX6_addOne_40 : decode cX6_addOne 40 = .ok (.aload_n 0, 1) := by decide +kernel
theorem dX6_addOne_41 : decode cX6_addOne 41 = .ok (.bipush 20, 2) := by decide +kernel
theorem dX6_addOne_43 : decode cX6_addOne 43 = .ok (.iaload, 1) := by decide +kernel
theorem dX6_addOne_44 : decode cX6_addOne 44 = .ok (.iconst 1, 1) := by decide +kernel
theorem dX6_addOne_45 : decode cX6_addOne 45 = .ok (.iload 4, 2) := by decide +kernel
theorem dX6_addOne_47 : decode cX6_addOne 47 = .ok (.ishl, 1) := by decide +kernel
theorem dX6_addOne_48 : decode cX6_addOne 48 = .ok (.ior, 1) := by decide +kernel
theorem dX6_addOne_49 : decode cX6_addOne 49 = .ok (.iastore, 1) := by decide +kernel
theorem dX6_addOne_50 : decode cX6_addOne 50 = .ok (.aload_n 0, 1) := by decide +kernel
theorem dX6_addOne_51 : decode cX6_addOne 51 = .ok (.bipush 23, 2) := by decide +kernel
theorem dX6_addOne_53 : decode cX6_addOne 53 = .ok (.dup2, 1) := by decide +kernel
theorem dX6_addOne_54 : decode cX6_addOne 54 = .ok (.iaload, 1) := by decide +kernel
theorem dX6_addOne_55 : decode cX6_addOne 55 = .ok (.iconst 1, 1) := by decide +kernel
theorem dX6_addOne_56 : decode cX6_addOne 56 = .ok (.iadd, 1) := by decide +kernel
theorem dX6_addOne_57 : decode cX6_addOne 57 = .ok (.iastore, 1) := by decide +kernel
theorem dX6_addOne_58 : decode cX6_addOne 58 = .ok (.iload 4, 2) := by decide +kernel
theorem dX6_addOne_60 : decode cX6_addOne 60 = .ok (.ireturn, 1) := by decide +kernel
theorem dX6_addThief_0 : decode cX6_addThief 0 = .ok (.aload_n 0, 1) := by decide +kernel
theorem dX6_addThief_1 : decode cX6_addThief 1 = .ok (.bipush 30, 2) := by decide +kernel
theorem dX6_addThief_3 : decode cX6_addThief 3 = .ok (.iaload, 1) := by decide +kernel
theorem dX6_addThief_4 : decode cX6_addThief 4 = .ok (.istore_n 3, 1) := by decide +kernel
theorem dX6_addThief_5 : decode cX6_addThief 5 = .ok (.aload_n 0, 1) := by decide +kernel
theorem dX6_addThief_6 : decode cX6_addThief 6 = .ok (.bipush 31, 2) := by decide +kernel
theorem dX6_addThief_8 : decode cX6_addThief 8 = .ok (.iload_n 3, 1) := by decide +kernel
theorem dX6_addThief_9 : decode cX6_addThief 9 = .ok (.iadd, 1) := by decide +kernel
theorem dX6_addThief_10 : decode cX6_addThief 10 = .ok (.iload_n 1, 1) := by decide +kernel
theorem dX6_addThief_11 : decode cX6_addThief 11 = .ok (.iastore, 1) := by decide +kernel
theorem dX6_addThief_12 : decode cX6_addThief 12 = .ok (.aload_n 0, 1) := by decide +kernel
theorem dX6_addThief_13 : decode cX6_addThief 13 = .ok (.bipush 35, 2) := by decide +kernel
theorem dX6_addThief_15 : decode cX6_addThief 15 = .ok (.iload_n 3, 1) := by decide +kernel
theorem dX6_addThief_16 : decode cX6_addThief 16 = .ok (.iadd, 1) := by decide +kernel
theorem dX6_addThief_17 : decode cX6_addThief 17 = .ok (.iload_n 2, 1) := by decide +kernel
theorem dX6_addThief_18 : decode cX6_addThief 18 = .ok (.iastore, 1) := by decide +kernel
theorem dX6_addThief_19 : decode cX6_addThief 19 = .ok (.aload_n 0, 1) := by decide +kernel
theorem dX6_addThief_20 : decode cX6_addThief 20 = .ok (.bipush 30, 2) := by decide +kernel
theorem dX6_addThief_22 : decode cX6_addThief 22 = .ok (.dup2, 1) := by decide +kernel
theorem dX6_addThief_23 : decode cX6_addThief 23 = .ok (.iaload, 1) := by decide +kernel
theorem dX6_addThief_24 : decode cX6_addThief 24 = .ok (.iconst 1, 1) := by decide +kernel
theorem dX6_addThief_25 : decode cX6_addThief 25 = .ok (.iadd, 1) := by decide +kernel
theorem dX6_addThief_26 : decode cX6_addThief 26 = .ok (.iastore, 1) := by decide +kernel
theorem dX6_addThief_27 : decode cX6_addThief 27 = .ok (.iload_n 3, 1) := by decide +kernel
theorem dX6_addThief_28 : decode cX6_addThief 28 = .ok (.ireturn, 1) := by decide +kernel
theorem dX6_apprentice_0 : decode cX6_apprentice 0 = .ok (.iload_n 1, 1) := by decide +kernel
theorem dX6_apprentice_1 : decode cX6_apprentice 1 = .ok (.iconst 0, 1) := by decide +kernel
theorem dX6_apprentice_2 : decode cX6_apprentice 2 = .ok (.iconst 4, 1) := by decide +kernel
theorem dX6_apprentice_3 : decode cX6_apprentice 3 = .ok (.invokestatic 38, 3) := by decide +kernel
theorem dX6_apprentice_6 : decode cX6_apprentice 6 = .ok (.ifCond .eq 22, 3) := by decide +kernel
theorem dX6_apprentice_9 : decode cX6_apprentice 9 = .ok (.iload_n 2, 1) := by decide +kernel
theorem dX6_apprentice_10 : decode cX6_apprentice 10 = .ok (.iconst 0, 1) := by decide +kernel
theorem dX6_apprentice_11 : decode cX6_apprentice 11 = .ok (.iconst 3, 1) := by decide +kernel
theorem dX6_apprentice_12 : decode cX6_apprentice 12 = .ok (.invokestatic 38, 3) := by decide +kernel
theorem dX6_apprentice_15 : decode cX6_apprentice 15 = .ok (.ifCond .eq 13, 3) := by decide +kernel
theorem dX6_apprentice_18 : decode cX6_apprentice 18 = .ok (.iload_n 3, 1) := by decide +kernel
theorem dX6_apprentice_19 : decode cX6_apprentice 19 = .ok (.iconst 0, 1) := by decide +kernel
theorem dX6_apprentice_20 : decode cX6_apprentice 20 = .ok (.bipush 9, 2) := by decide +kernel
theorem dX6_apprentice_22 : decode cX6_apprentice 22 = .ok (.invokestatic 38, 3) := by decide +kernel
theorem dX6_apprentice_25 : decode cX6_apprentice 25 = .ok (.ifCond .ne 5, 3) := by decide +kernel
theorem dX6_apprentice_28 : decode cX6_apprentice 28 = .ok (.iconst (-1), 1) := by decide +kernel
theorem dX6_apprentice_29 : decode cX6_apprentice 29 = .ok (.ireturn, 1) := by decide +kernel
theorem dX6_apprentice_30 : decode cX6_apprentice 30 = .ok (.aload_n 0, 1) := by decide +kernel
theorem dX6_apprentice_31 : decode cX6_apprentice 31 = .ok (.getfield 23, 3) := by decide +kernel
theorem dX6_apprentice_34 : decode cX6_apprentice 34 = .ok (.bipush 23, 2) := by decide +kernel
theorem dX6_apprentice_36 : decode cX6_apprentice 36 = .ok (.iaload, 1) := by decide +kernel
theorem dX6_apprentice_37 : decode cX6_apprentice 37 = .ok (.bipush 6, 2) := by decide +kernel
theorem dX6_apprentice_39 : decode cX6_apprentice 39 = .ok (.if_icmp .ne 6, 3) := by decide +kernel
theorem dX6_apprentice_42 : decode cX6_apprentice 42 = .ok (.bipush (-3), 2) := by decide +kernel
theorem dX6_apprentice_44 : decode cX6_apprentice 44 = .ok (.ireturn, 1) := by decide +kernel
theorem dX6_apprentice_45 : decode cX6_apprentice 45 = .ok (.aload_n 0, 1) := by decide +kernel
theorem dX6_apprentice_46 : decode cX6_apprentice 46 = .ok (.getfield 23, 3) := by decide +kernel
theorem dX6_apprentice_49 : decode cX6_apprentice 49 = .ok (.bipush 39, 2) := by decide +kernel
theorem dX6_apprentice_51 : decode cX6_apprentice 51 = .ok (.iconst 0, 1) := by decide +kernel
theorem dX6_apprentice_52 : decode cX6_apprentice 52 = .ok (.iastore, 1) := by decide +kernel
theorem dX6_apprentice_53 : decode cX6_apprentice 53 = .ok (.aload_n 0, 1) := by decide +kernel
theorem dX6_apprentice_54 : decode cX6_apprentice 54 = .ok (.getfield 23, 3) := by decide +kernel
theorem dX6_apprentice_57 : decode cX6_apprentice 57 = .ok (.iload_n 1, 1) := by decide +kernel
theorem dX6_apprentice_58 : decode cX6_apprentice 58 = .ok (.iload_n 2, 1) := by decide +kernel
theorem dX6_apprentice_59 : decode cX6_apprentice 59 = .ok (.iload_n 3, 1) := by decide +kernel
theorem dX6_apprentice_60 : decode cX6_apprentice 60 = .ok (.invokestatic 42, 3) := by decide +kernel
theorem dX6_apprentice_63 : decode cX6_apprentice 63 = .ok (.ireturn, 1) := by decide +kernel
theorem dX6_thief_0 : decode cX6_thief 0 = .ok (.iload_n 1, 1) := by decide +kernel
theorem dX6_thief_1 : decode cX6_thief 1 = .ok (.iconst 0, 1) := by decide +kernel
theorem dX6_thief_2 : decode cX6_thief 2 = .ok (.bipush 9, 2) := by decide +kernel
theorem dX6_thief_4 : decode cX6_thief 4 = .ok (.invokestatic 38, 3) := by decide +kernel
theorem dX6_thief_7 : decode cX6_thief 7 = .ok (.ifCond .eq 12, 3) := by decide +kernel
theorem dX6_thief_10 : decode cX6_thief 10 = .ok (.iload_n 2, 1) := by decide +kernel
theorem dX6_thief_11 : decode cX6_thief 11 = .ok (.iconst 0, 1) := by decide +kernel
theorem dX6_thief_12 : decode cX6_thief 12 = .ok (.iconst 4, 1) := by decide +kernel
theorem dX6_thief_13 : decode cX6_thief 13 = .ok (.invokestatic 38, 3) := by decide +kernel
theorem dX6_thief_16 : decode cX6_thief 16 = .ok (.ifCond .ne 5, 3) := by decide +kernel
theorem dX6_thief_19 : decode cX6_thief 19 = .ok (.iconst (-1), 1) := by decide +kernel
theorem dX6_thief_20 : decode cX6_thief 20 = .ok (.ireturn, 1) := by decide +kernel
theorem dX6_thief_21 : decode cX6_thief 21 = .ok (.aload_n 0, 1) := by decide +kernel
theorem dX6_thief_22 : decode cX6_thief 22 = .ok (.getfield 23, 3) := by decide +kernel
theorem dX6_thief_25 : decode cX6_thief 25 = .ok (.bipush 30, 2) := by decide +kernel
theorem dX6_thief_27 : decode cX6_thief 27 = .ok (.iaload, 1) := by decide +kernel
theorem dX6_thief_28 : decode cX6_thief 28 = .ok (.iconst 4, 1) := by decide +kernel
theorem dX6_thief_29 : decode cX6_thief 29 = .ok (.if_icmp .ne 6, 3) := by decide +kernel
theorem dX6_thief_32 : decode cX6_thief 32 = .ok (.bipush (-3), 2) := by decide +kernel
theorem dX6_thief_34 : decode cX6_thief 34 = .ok (.ireturn, 1) := by decide +kernel
theorem dX6_thief_35 : decode cX6_thief 35 = .ok (.aload_n 0, 1) := by decide +kernel
theorem dX6_thief_36 : decode cX6_thief 36 = .ok (.getfield 23, 3) := by decide +kernel
theorem dX6_thief_39 : decode cX6_thief 39 = .ok (.bipush 39, 2) := by decide +kernel
theorem dX6_thief_41 : decode cX6_thief 41 = .ok (.iconst 0, 1) := by decide +kernel
theorem dX6_thief_42 : decode cX6_thief 42 = .ok (.iastore, 1) := by decide +kernel
theorem dX6_thief_43 : decode cX6_thief 43 = .ok (.aload_n 0, 1) := by decide +kernel
theorem dX6_thief_44 : decode cX6_thief 44 = .ok (.getfield 23, 3) := by decide +kernel
theorem dX6_thief_47 : decode cX6_thief 47 = .ok (.iload_n 1, 1) := by decide +kernel
theorem dX6_thief_48 : decode cX6_thief 48 = .ok (.iload_n 2, 1) := by decide +kernel
theorem dX6_thief_49 : decode cX6_thief 49 = .ok (.invokestatic 46, 3) := by decide +kernel
theorem dX6_thief_52 : decode cX6_thief 52 = .ok (.ireturn, 1) := by decide +kernel
theorem dX6_bar_0 : decode cX6_bar 0 = .ok (.iload_n 1, 1) := by decide +kernel
theorem dX6_bar_1 : decode cX6_bar 1 = .ok (.iconst 0, 1) := by decide +kernel
theorem dX6_bar_2 : decode cX6_bar 2 = .ok (.bipush 99, 2) := by decide +kernel
theorem dX6_bar_4 : decode cX6_bar 4 = .ok (.invokestatic 38, 3) := by decide +kernel
theorem dX6_bar_7 : decode cX6_bar 7 = .ok (.ifCond .ne 5, 3) := by decide +kernel
theorem dX6_bar_10 : decode cX6_bar 10 = .ok (.iconst (-1), 1) := by decide +kernel
theorem dX6_bar_11 : decode cX6_bar 11 = .ok (.ireturn, 1) := by decide +kernel
theorem dX6_bar_12 : decode cX6_bar 12 = .ok (.aload_n 0, 1) := by decide +kernel
theorem dX6_bar_13 : decode cX6_bar 13 = .ok (.getfield 23, 3) := by decide +kernel
theorem dX6_bar_16 : decode cX6_bar 16 = .ok (.bipush 22, 2) := by decide +kernel
theorem dX6_bar_18 : decode cX6_bar 18 = .ok (.iaload, 1) := by decide +kernel
theorem dX6_bar_19 : decode cX6_bar 19 = .ok (.istore_n 2, 1) := by decide +kernel
theorem dX6_bar_20 : decode cX6_bar 20 = .ok (.aload_n 0, 1) := by decide +kernel
theorem dX6_bar_21 : decode cX6_bar 21 = .ok (.getfield 23, 3) := by decide +kernel
theorem dX6_bar_24 : decode cX6_bar 24 = .ok (.bipush 22, 2) := by decide +kernel
theorem dX6_bar_26 : decode cX6_bar 26 = .ok (.iload_n 1, 1) := by decide +kernel
theorem dX6_bar_27 : decode cX6_bar 27 = .ok (.iastore, 1) := by decide +kernel
theorem dX6_bar_28 : decode cX6_bar 28 = .ok (.iload_n 2, 1) := by decide +kernel
theorem dX6_bar_29 : decode cX6_bar 29 = .ok (.ireturn, 1) := by decide +kernel
theorem dX6_mayRob_0 : decode cX6_mayRob 0 = .ok (.aload_n 0, 1) := by decide +kernel
theorem dX6_mayRob_1 : decode cX6_mayRob 1 = .ok (.bipush 20, 2) := by decide +kernel
theorem dX6_mayRob_3 : decode cX6_mayRob 3 = .ok (.iaload, 1) := by decide +kernel
theorem dX6_mayRob_4 : decode cX6_mayRob 4 = .ok (.iload_n 2, 1) := by decide +kernel
theorem dX6_mayRob_5 : decode cX6_mayRob 5 = .ok (.invokestatic 50, 3) := by decide +kernel
theorem dX6_mayRob_8 : decode cX6_mayRob 8 = .ok (.ifCond .eq 33, 3) := by decide +kernel
theorem dX6_mayRob_11 : decode cX6_mayRob 11 = .ok (.aload_n 0, 1) := by decide +kernel
theorem dX6_mayRob_12 : decode cX6_mayRob 12 = .ok (.bipush 21, 2) := by decide +kernel
theorem dX6_mayRob_14 : decode cX6_mayRob 14 = .ok (.iaload, 1) := by decide +kernel
theorem dX6_mayRob_15 : decode cX6_mayRob 15 = .ok (.iload_n 2, 1) := by decide +kernel
theorem dX6_mayRob_16 : decode cX6_mayRob 16 = .ok (.invokestatic 50, 3) := by decide +kernel
theorem dX6_mayRob_19 : decode cX6_mayRob 19 = .ok (.ifCond .ne 22, 3) := by decide +kernel
theorem dX6_mayRob_22 : decode cX6_mayRob 22 = .ok (.aload_n 0, 1) := by decide +kernel
theorem dX6_mayRob_23 : decode cX6_mayRob 23 = .ok (.bipush 14, 2) := by decide +kernel
theorem dX6_mayRob_25 : decode cX6_mayRob 25 = .ok (.iload_n 2, 1) := by decide +kernel
theorem dX6_mayRob_26 : decode cX6_mayRob 26 = .ok (.iadd, 1) := by decide +kernel
theorem dX6_mayRob_27 : decode cX6_mayRob 27 = .ok (.iaload, 1) := by decide +kernel
theorem dX6_mayRob_28 : decode cX6_mayRob 28 = .ok (.aload_n 0, 1) := by decide +kernel
theorem dX6_mayRob_29 : decode cX6_mayRob 29 = .ok (.bipush 31, 2) := by decide +kernel
theorem dX6_mayRob_31 : decode cX6_mayRob 31 = .ok (.iload_n 1, 1) := by decide +kernel
theorem dX6_mayRob_32 : decode cX6_mayRob 32 = .ok (.iadd, 1) := by decide +kernel
theorem dX6_mayRob_33 : decode cX6_mayRob 33 = .ok (.iaload, 1) := by decide +kernel
theorem dX6_mayRob_34 : decode cX6_mayRob 34 = .ok (.if_icmp .gt 7, 3) := by decide +kernel
theorem dX6_mayRob_37 : decode cX6_mayRob 37 = .ok (.iconst 1, 1) := by decide +kernel
theorem dX6_mayRob_38 : decode cX6_mayRob 38 = .ok (.goto 4, 3) := by decide +kernel
theorem dX6_mayRob_41 : decode cX6_mayRob 41 = .ok (.iconst 0, 1) := by decide +kernel
theorem dX6_mayRob_42 : decode cX6_mayRob 42 = .ok (.istore_n 3, 1) := by decide +kernel
theorem dX6_mayRob_43 : decode cX6_mayRob 43 = .ok (.iload_n 3, 1) := by decide +kernel
theorem dX6_mayRob_44 : decode cX6_mayRob 44 = .ok (.ifCond .eq 32, 3) := by decide +kernel
theorem dX6_mayRob_47 : decode cX6_mayRob 47 = .ok (.aload_n 0, 1) := by decide +kernel
theorem dX6_mayRob_48 : decode cX6_mayRob 48 = .ok (.bipush 35, 2) := by decide +kernel
theorem dX6_mayRob_50 : decode cX6_mayRob 50 = .ok (.iload_n 1, 1) := by decide +kernel
theorem dX6_mayRob_51 : decode cX6_mayRob 51 = .ok (.iadd, 1) := by decide +kernel
theorem dX6_mayRob_52 : decode cX6_mayRob 52 = .ok (.iaload, 1) := by decide +kernel
theorem dX6_mayRob_53 : decode cX6_mayRob 53 = .ok (.iconst 4, 1) := by decide +kernel
theorem dX6_mayRob_54 : decode cX6_mayRob 54 = .ok (.if_icmp .eq 18, 3) := by decide +kernel
theorem dX6_mayRob_57 : decode cX6_mayRob 57 = .ok (.aload_n 0, 1) := by decide +kernel
theorem dX6_mayRob_58 : decode cX6_mayRob 58 = .ok (.bipush 35, 2) := by decide +kernel
theorem dX6_mayRob_60 : decode cX6_mayRob 60 = .ok (.iload_n 1, 1) := by decide +kernel
theorem dX6_mayRob_61 : decode cX6_mayRob 61 = .ok (.iadd, 1) := by decide +kernel
theorem dX6_mayRob_62 : decode cX6_mayRob 62 = .ok (.iaload, 1) := by decide +kernel
theorem dX6_mayRob_63 : decode cX6_mayRob 63 = .ok (.aload_n 0, 1) := by decide +kernel
theorem dX6_mayRob_64 : decode cX6_mayRob 64 = .ok (.bipush 8, 2) := by decide +kernel
theorem dX6_mayRob_66 : decode cX6_mayRob 66 = .ok (.iload_n 2, 1) := by decide +kernel
theorem dX6_mayRob_67 : decode cX6_mayRob 67 = .ok (.iadd, 1) := by decide +kernel
theorem dX6_mayRob_68 : decode cX6_mayRob 68 = .ok (.iaload, 1) := by decide +kernel
theorem dX6_mayRob_69 : decode cX6_mayRob 69 = .ok (.if_icmp .ne 7, 3) := by decide +kernel
theorem dX6_mayRob_72 : decode cX6_mayRob 72 = .ok (.iconst 1, 1) := by decide +kernel
theorem dX6_mayRob_73 : decode cX6_mayRob 73 = .ok (.goto 4, 3) := by decide +kernel
theorem dX6_mayRob_76 : decode cX6_mayRob 76 = .ok (.iconst 0, 1) := by decide +kernel
theorem dX6_mayRob_77 : decode cX6_mayRob 77 = .ok (.ireturn, 1) := by decide +kernel
theorem dX6_preyOf_0 : decode cX6_preyOf 0 = .ok (.iconst 0, 1) := by decide +kernel
theorem dX6_preyOf_1 : decode cX6_preyOf 1 = .ok (.istore_n 2, 1) := by decide +kernel
theorem dX6_preyOf_2 : decode cX6_preyOf 2 = .ok (.iconst 0, 1) := by decide +kernel
theorem dX6_preyOf_3 : decode cX6_preyOf 3 = .ok (.istore_n 3, 1) := by decide +kernel
theorem dX6_preyOf_4 : decode cX6_preyOf 4 = .ok (.iload_n 3, 1) := by decide +kernel
theorem dX6_preyOf_5 : decode cX6_preyOf 5 = .ok (.aload_n 0, 1) := by decide +kernel
theorem dX6_preyOf_6 : decode cX6_preyOf 6 = .ok (.getfield 23, 3) := by decide +kernel
theorem dX6_preyOf_9 : decode cX6_preyOf 9 = .ok (.bipush 23, 2) := by decide +kernel
theorem dX6_preyOf_11 : decode cX6_preyOf 11 = .ok (.iaload, 1) := by decide +kernel
theorem dX6_preyOf_12 : decode cX6_preyOf 12 = .ok (.if_icmp .ge 31, 3) := by decide +kernel
theorem dX6_preyOf_15 : decode cX6_preyOf 15 = .ok (.iload_n 2, 1) := by decide +kernel
theorem dX6_preyOf_16 : decode cX6_preyOf 16 = .ok (.aload_n 0, 1) := by decide +kernel
theorem dX6_preyOf_17 : decode cX6_preyOf 17 = .ok (.getfield 23, 3) := by decide +kernel
theorem dX6_preyOf_20 : decode cX6_preyOf 20 = .ok (.iload_n 1, 1) := by decide +kernel
theorem dX6_preyOf_21 : decode cX6_preyOf 21 = .ok (.iload_n 3, 1) := by decide +kernel
theorem dX6_preyOf_22 : decode cX6_preyOf 22 = .ok (.invokestatic 54, 3) := by decide +kernel
theorem dX6_preyOf_25 : decode cX6_preyOf 25 = .ok (.ifCond .eq 9, 3) := by decide +kernel
theorem dX6_preyOf_28 : decode cX6_preyOf 28 = .ok (.iconst 1, 1) := by decide +kernel
theorem dX6_preyOf_29 : decode cX6_preyOf 29 = .ok (.iload_n 3, 1) := by decide +kernel
theorem dX6_preyOf_30 : decode cX6_preyOf 30 = .ok (.ishl, 1) := by decide +kernel
theorem dX6_preyOf_31 : decode cX6_preyOf 31 = .ok (.goto 4, 3) := by decide +kernel
theorem dX6_preyOf_34 : decode cX6_preyOf 34 = .ok (.iconst 0, 1) := by decide +kernel
theorem dX6_preyOf_35 : decode cX6_preyOf 35 = .ok (.ior, 1) := by decide +kernel
theorem dX6_preyOf_36 : decode cX6_preyOf 36 = .ok (.istore_n 2, 1) := by decide +kernel
theorem dX6_preyOf_37 : decode cX6_preyOf 37 = .ok (.iinc 3 1, 3) := by decide +kernel
theorem dX6_preyOf_40 : decode cX6_preyOf 40 = .ok (.goto (-36), 3) := by decide +kernel
theorem dX6_preyOf_43 : decode cX6_preyOf 43 = .ok (.iload_n 2, 1) := by decide +kernel
theorem dX6_preyOf_44 : decode cX6_preyOf 44 = .ok (.ireturn, 1) := by decide +kernel
theorem dX6_robbersOf_0 : decode cX6_robbersOf 0 = .ok (.iconst 0, 1) := by decide +kernel
theorem dX6_robbersOf_1 : decode cX6_robbersOf 1 = .ok (.istore_n 2, 1) := by decide +kernel
theorem dX6_robbersOf_2 : decode cX6_robbersOf 2 = .ok (.iconst 0, 1) := by decide +kernel
theorem dX6_robbersOf_3 : decode cX6_robbersOf 3 = .ok (.istore_n 3, 1) := by decide +kernel
theorem dX6_robbersOf_4 : decode cX6_robbersOf 4 = .ok (.iload_n 3, 1) := by decide +kernel
theorem dX6_robbersOf_5 : decode cX6_robbersOf 5 = .ok (.aload_n 0, 1) := by decide +kernel
theorem dX6_robbersOf_6 : decode cX6_robbersOf 6 = .ok (.getfield 23, 3) := by decide +kernel
theorem dX6_robbersOf_9 : decode cX6_robbersOf 9 = .ok (.bipush 30, 2) := by decide +kernel
theorem dX6_robbersOf_11 : decode cX6_robbersOf 11 = .ok (.iaload, 1) := by decide +kernel
theorem dX6_robbersOf_12 : decode cX6_robbersOf 12 = .ok (.if_icmp .ge 31, 3) := by decide +kernel
theorem dX6_robbersOf_15 : decode cX6_robbersOf 15 = .ok (.iload_n 2, 1) := by decide +kernel
theorem dX6_robbersOf_16 : decode cX6_robbersOf 16 = .ok (.aload_n 0, 1) := by decide +kernel
theorem dX6_robbersOf_17 : decode cX6_robbersOf 17 = .ok (.getfield 23, 3) := by decide +kernel
theorem dX6_robbersOf_20 : decode cX6_robbersOf 20 = .ok (.iload_n 3, 1) := by decide +kernel
theorem dX6_robbersOf_21 : decode cX6_robbersOf 21 = .ok (.iload_n 1, 1) := by decide +kernel
theorem dX6_robbersOf_22 : decode cX6_robbersOf 22 = .ok (.invokestatic 54, 3) := by decide +kernel
theorem dX6_robbersOf_25 : decode cX6_robbersOf 25 = .ok (.ifCond .eq 9, 3) := by decide +kernel
theorem dX6_robbersOf_28 : decode cX6_robbersOf 28 = .ok (.iconst 1, 1) := by decide +kernel
theorem dX6_robbersOf_29 : decode cX6_robbersOf 29 = .ok (.iload_n 3, 1) := by decide +kernel
theorem dX6_robbersOf_30 : decode cX6_robbersOf 30 = .ok (.ishl, 1) := by decide +kernel
theorem dX6_robbersOf_31 : decode cX6_robbersOf 31 = .ok (.goto 4, 3) := by decide +kernel
theorem dX6_robbersOf_34 : decode cX6_robbersOf 34 = .ok (.iconst 0, 1) := by decide +kernel
theorem dX6_robbersOf_35 : decode cX6_robbersOf 35 = .ok (.ior, 1) := by decide +kernel
theorem dX6_robbersOf_36 : decode cX6_robbersOf 36 = .ok (.istore_n 2, 1) := by decide +kernel
theorem dX6_robbersOf_37 : decode cX6_robbersOf 37 = .ok (.iinc 3 1, 3) := by decide +kernel
theorem dX6_robbersOf_40 : decode cX6_robbersOf 40 = .ok (.goto (-36), 3) := by decide +kernel
theorem dX6_robbersOf_43 : decode cX6_robbersOf 43 = .ok (.iload_n 2, 1) := by decide +kernel
theorem dX6_robbersOf_44 : decode cX6_robbersOf 44 = .ok (.ireturn, 1) := by decide +kernel
theorem dX6_of_0 : decode cX6_of 0 = .ok (.aload_n 0, 1) := by decide +kernel
theorem dX6_of_1 : decode cX6_of 1 = .ok (.iload_n 1, 1) := by decide +kernel
theorem dX6_of_2 : decode cX6_of 2 = .ok (.invokevirtual 58, 3) := by decide +kernel
theorem dX6_of_5 : decode cX6_of 5 = .ok (.ifCond .ne 5, 3) := by decide +kernel
theorem dX6_of_8 : decode cX6_of 8 = .ok (.iconst (-1), 1) := by decide +kernel
theorem dX6_of_9 : decode cX6_of 9 = .ok (.ireturn, 1) := by decide +kernel
theorem dX6_of_10 : decode cX6_of 10 = .ok (.iload_n 2, 1) := by decide +kernel
theorem dX6_of_11 : decode cX6_of 11 = .ok (.tableswitch 110 0 6 #[41, 51, 61, 70, 80, 92, 104], 41) := by decide +kernel
theorem dX6_of_52 : decode cX6_of 52 = .ok (.aload_n 0, 1) := by decide +kernel
theorem dX6_of_53 : decode cX6_of 53 = .ok (.getfield 23, 3) := by decide +kernel
theorem dX6_of_56 : decode cX6_of 56 = .ok (.bipush 24, 2) := by decide +kernel
theorem dX6_of_58 : decode cX6_of 58 = .ok (.iload_n 1, 1) := by decide +kernel
theorem dX6_of_59 : decode cX6_of 59 = .ok (.iadd, 1) := by decide +kernel
theorem dX6_of_60 : decode cX6_of 60 = .ok (.iaload, 1) := by decide +kernel
theorem dX6_of_61 : decode cX6_of 61 = .ok (.ireturn, 1) := by decide +kernel
theorem dX6_of_62 : decode cX6_of 62 = .ok (.aload_n 0, 1) := by decide +kernel
theorem dX6_of_63 : decode cX6_of 63 = .ok (.getfield 23, 3) := by decide +kernel
theorem dX6_of_66 : decode cX6_of 66 = .ok (.bipush 8, 2) := by decide +kernel
theorem dX6_of_68 : decode cX6_of 68 = .ok (.iload_n 1, 1) := by decide +kernel
theorem dX6_of_69 : decode cX6_of 69 = .ok (.iadd, 1) := by decide +kernel
theorem dX6_of_70 : decode cX6_of 70 = .ok (.iaload, 1) := by decide +kernel
theorem dX6_of_71 : decode cX6_of 71 = .ok (.ireturn, 1) := by decide +kernel
theorem dX6_of_72 : decode cX6_of 72 = .ok (.aload_n 0, 1) := by decide +kernel
theorem dX6_of_73 : decode cX6_of 73 = .ok (.getfield 23, 3) := by decide +kernel
theorem dX6_of_76 : decode cX6_of 76 = .ok (.iconst 2, 1) := by decide +kernel
theorem dX6_of_77 : decode cX6_of 77 = .ok (.iload_n 1, 1) := by decide +kernel
theorem dX6_of_78 : decode cX6_of 78 = .ok (.iadd, 1) := by decide +kernel
theorem dX6_of_79 : decode cX6_of 79 = .ok (.iaload, 1) := by decide +kernel
theorem dX6_of_80 : decode cX6_of 80 = .ok (.ireturn, 1) := by decide +kernel
theorem dX6_of_81 : decode cX6_of 81 = .ok (.aload_n 0, 1) := by decide +kernel
theorem dX6_of_82 : decode cX6_of 82 = .ok (.getfield 23, 3) := by decide +kernel
theorem dX6_of_85 : decode cX6_of 85 = .ok (.bipush 14, 2) := by decide +kernel
theorem dX6_of_87 : decode cX6_of 87 = .ok (.iload_n 1, 1) := by decide +kernel
theorem dX6_of_88 : decode cX6_of 88 = .ok (.iadd, 1) := by decide +kernel
theorem dX6_of_89 : decode cX6_of 89 = .ok (.iaload, 1) := by decide +kernel
theorem dX6_of_90 : decode cX6_of 90 = .ok (.ireturn, 1) := by decide +kernel
theorem dX6_of_91 : decode cX6_of 91 = .ok (.aload_n 0, 1) := by decide +kernel
theorem dX6_of_92 : decode cX6_of 92 = .ok (.getfield 23, 3) := by decide +kernel
theorem dX6_of_95 : decode cX6_of 95 = .ok (.bipush 20, 2) := by decide +kernel
theorem dX6_of_97 : decode cX6_of 97 = .ok (.iaload, 1) := by decide +kernel
theorem dX6_of_98 : decode cX6_of 98 = .ok (.iload_n 1, 1) := by decide +kernel
theorem dX6_of_99 : decode cX6_of 99 = .ok (.ishr, 1) := by decide +kernel
theorem dX6_of_100 : decode cX6_of 100 = .ok (.iconst 1, 1) := by decide +kernel
theorem dX6_of_101 : decode cX6_of 101 = .ok (.iand, 1) := by decide +kernel
theorem dX6_of_102 : decode cX6_of 102 = .ok (.ireturn, 1) := by decide +kernel
theorem dX6_of_103 : decode cX6_of 103 = .ok (.aload_n 0, 1) := by decide +kernel
theorem dX6_of_104 : decode cX6_of 104 = .ok (.getfield 23, 3) := by decide +kernel
theorem dX6_of_107 : decode cX6_of 107 = .ok (.bipush 21, 2) := by decide +kernel
theorem dX6_of_109 : decode cX6_of 109 = .ok (.iaload, 1) := by decide +kernel
theorem dX6_of_110 : decode cX6_of 110 = .ok (.iload_n 1, 1) := by decide +kernel
theorem dX6_of_111 : decode cX6_of 111 = .ok (.ishr, 1) := by decide +kernel
theorem dX6_of_112 : decode cX6_of 112 = .ok (.iconst 1, 1) := by decide +kernel
theorem dX6_of_113 : decode cX6_of 113 = .ok (.iand, 1) := by decide +kernel
theorem dX6_of_114 : decode cX6_of 114 = .ok (.ireturn, 1) := by decide +kernel
theorem dX6_of_115 : decode cX6_of 115 = .ok (.aload_n 0, 1) := by decide +kernel
theorem dX6_of_116 : decode cX6_of 116 = .ok (.iload_n 1, 1) := by decide +kernel
theorem dX6_of_117 : decode cX6_of 117 = .ok (.invokevirtual 62, 3) := by decide +kernel
theorem dX6_of_120 : decode cX6_of 120 = .ok (.ireturn, 1) := by decide +kernel
theorem dX6_of_121 : decode cX6_of 121 = .ok (.iconst (-1), 1) := by decide +kernel
theorem dX6_of_122 : decode cX6_of 122 = .ok (.ireturn, 1) := by decide +kernel
theorem dX6_at_0 : decode cX6_at 0 = .ok (.aload_n 0, 1) := by decide +kernel
theorem dX6_at_1 : decode cX6_at 1 = .ok (.iload_n 1, 1) := by decide +kernel
theorem dX6_at_2 : decode cX6_at 2 = .ok (.invokevirtual 66, 3) := by decide +kernel
theorem dX6_at_5 : decode cX6_at 5 = .ok (.ifCond .ne 5, 3) := by decide +kernel
theorem dX6_at_8 : decode cX6_at 8 = .ok (.iconst (-1), 1) := by decide +kernel
theorem dX6_at_9 : decode cX6_at 9 = .ok (.ireturn, 1) := by decide +kernel
theorem dX6_at_10 : decode cX6_at 10 = .ok (.iload_n 2, 1) := by decide +kernel
theorem dX6_at_11 : decode cX6_at 11 = .ok (.ifCond .ne 15, 3) := by decide +kernel
theorem dX6_at_14 : decode cX6_at 14 = .ok (.aload_n 0, 1) := by decide +kernel
theorem dX6_at_15 : decode cX6_at 15 = .ok (.getfield 23, 3) := by decide +kernel
theorem dX6_at_18 : decode cX6_at 18 = .ok (.bipush 31, 2) := by decide +kernel
theorem dX6_at_20 : decode cX6_at 20 = .ok (.iload_n 1, 1) := by decide +kernel
theorem dX6_at_21 : decode cX6_at 21 = .ok (.iadd, 1) := by decide +kernel
theorem dX6_at_22 : decode cX6_at 22 = .ok (.iaload, 1) := by decide +kernel
theorem dX6_at_23 : decode cX6_at 23 = .ok (.goto 34, 3) := by decide +kernel
theorem dX6_at_26 : decode cX6_at 26 = .ok (.iload_n 2, 1) := by decide +kernel
theorem dX6_at_27 : decode cX6_at 27 = .ok (.iconst 1, 1) := by decide +kernel
theorem dX6_at_28 : decode cX6_at 28 = .ok (.if_icmp .ne 15, 3) := by decide +kernel
theorem dX6_at_31 : decode cX6_at 31 = .ok (.aload_n 0, 1) := by decide +kernel
theorem dX6_at_32 : decode cX6_at 32 = .ok (.getfield 23, 3) := by decide +kernel
theorem dX6_at_35 : decode cX6_at 35 = .ok (.bipush 35, 2) := by decide +kernel
theorem dX6_at_37 : decode cX6_at 37 = .ok (.iload_n 1, 1) := by decide +kernel
theorem dX6_at_38 : decode cX6_at 38 = .ok (.iadd, 1) := by decide +kernel
theorem dX6_at_39 : decode cX6_at 39 = .ok (.iaload, 1) := by decide +kernel
theorem dX6_at_40 : decode cX6_at 40 = .ok (.goto 17, 3) := by decide +kernel
theorem dX6_at_43 : decode cX6_at 43 = .ok (.iload_n 2, 1) := by decide +kernel
theorem dX6_at_44 : decode cX6_at 44 = .ok (.iconst 2, 1) := by decide +kernel
theorem dX6_at_45 : decode cX6_at 45 = .ok (.if_icmp .ne 11, 3) := by decide +kernel
theorem dX6_at_48 : decode cX6_at 48 = .ok (.aload_n 0, 1) := by decide +kernel
theorem dX6_at_49 : decode cX6_at 49 = .ok (.iload_n 1, 1) := by decide +kernel
theorem dX6_at_50 : decode cX6_at 50 = .ok (.invokevirtual 69, 3) := by decide +kernel
theorem dX6_at_53 : decode cX6_at 53 = .ok (.goto 4, 3) := by decide +kernel
theorem dX6_at_56 : decode cX6_at 56 = .ok (.iconst (-1), 1) := by decide +kernel
theorem dX6_at_57 : decode cX6_at 57 = .ok (.ireturn, 1) := by decide +kernel
theorem dX6_type_0 : decode cX6_type 0 = .ok (.iload_n 1, 1) := by decide +kernel
theorem dX6_type_1 : decode cX6_type 1 = .ok (.bipush 32, 2) := by decide +kernel
theorem dX6_type_3 : decode cX6_type 3 = .ok (.bipush 126, 2) := by decide +kernel
theorem dX6_type_5 : decode cX6_type 5 = .ok (.invokestatic 38, 3) := by decide +kernel
theorem dX6_type_8 : decode cX6_type 8 = .ok (.ifCond .ne 5, 3) := by decide +kernel
theorem dX6_type_11 : decode cX6_type 11 = .ok (.iconst (-1), 1) := by decide +kernel
theorem dX6_type_12 : decode cX6_type 12 = .ok (.ireturn, 1) := by decide +kernel
theorem dX6_type_13 : decode cX6_type 13 = .ok (.aload_n 0, 1) := by decide +kernel
theorem dX6_type_14 : decode cX6_type 14 = .ok (.getfield 72, 3) := by decide +kernel
theorem dX6_type_17 : decode cX6_type 17 = .ok (.bipush 80, 2) := by decide +kernel
theorem dX6_type_19 : decode cX6_type 19 = .ok (.if_icmp .ne 6, 3) := by decide +kernel
theorem dX6_type_22 : decode cX6_type 22 = .ok (.bipush (-3), 2) := by decide +kernel
theorem dX6_type_24 : decode cX6_type 24 = .ok (.ireturn, 1) := by decide +kernel
theorem dX6_type_25 : decode cX6_type 25 = .ok (.aload_n 0, 1) := by decide +kernel
theorem dX6_type_26 : decode cX6_type 26 = .ok (.getfield 20, 3) := by decide +kernel
theorem dX6_type_29 : decode cX6_type 29 = .ok (.aload_n 0, 1) := by decide +kernel
theorem dX6_type_30 : decode cX6_type 30 = .ok (.getfield 72, 3) := by decide +kernel
theorem dX6_type_33 : decode cX6_type 33 = .ok (.iload_n 1, 1) := by decide +kernel
theorem dX6_type_34 : decode cX6_type 34 = .ok (.iastore, 1) := by decide +kernel
theorem dX6_type_35 : decode cX6_type 35 = .ok (.aload_n 0, 1) := by decide +kernel
theorem dX6_type_36 : decode cX6_type 36 = .ok (.dup, 1) := by decide +kernel
theorem dX6_type_37 : decode cX6_type 37 = .ok (.getfield 72, 3) := by decide +kernel
theorem dX6_type_40 : decode cX6_type 40 = .ok (.iconst 1, 1) := by decide +kernel
theorem dX6_type_41 : decode cX6_type 41 = .ok (.iadd, 1) := by decide +kernel
theorem dX6_type_42 : decode cX6_type 42 = .ok (.putfield 72, 3) := by decide +kernel
theorem dX6_type_45 : decode cX6_type 45 = .ok (.aload_n 0, 1) := by decide +kernel
theorem dX6_type_46 : decode cX6_type 46 = .ok (.getfield 72, 3) := by decide +kernel
theorem dX6_type_49 : decode cX6_type 49 = .ok (.ireturn, 1) := by decide +kernel
theorem dX6_peek_0 : decode cX6_peek 0 = .ok (.aload_n 0, 1) := by decide +kernel
theorem dX6_peek_1 : decode cX6_peek 1 = .ok (.getfield 76, 3) := by decide +kernel
theorem dX6_peek_4 : decode cX6_peek 4 = .ok (.aload_n 0, 1) := by decide +kernel
theorem dX6_peek_5 : decode cX6_peek 5 = .ok (.getfield 72, 3) := by decide +kernel
theorem dX6_peek_8 : decode cX6_peek 8 = .ok (.if_icmp .ge 30, 3) := by decide +kernel
theorem dX6_peek_11 : decode cX6_peek 11 = .ok (.aload_n 0, 1) := by decide +kernel
theorem dX6_peek_12 : decode cX6_peek 12 = .ok (.getfield 20, 3) := by decide +kernel
theorem dX6_peek_15 : decode cX6_peek 15 = .ok (.aload_n 0, 1) := by decide +kernel
theorem dX6_peek_16 : decode cX6_peek 16 = .ok (.getfield 76, 3) := by decide +kernel
theorem dX6_peek_19 : decode cX6_peek 19 = .ok (.iaload, 1) := by decide +kernel
theorem dX6_peek_20 : decode cX6_peek 20 = .ok (.bipush 32, 2) := by decide +kernel
theorem dX6_peek_22 : decode cX6_peek 22 = .ok (.if_icmp .ne 16, 3) := by decide +kernel
theorem dX6_peek_25 : decode cX6_peek 25 = .ok (.aload_n 0, 1) := by decide +kernel
theorem dX6_peek_26 : decode cX6_peek 26 = .ok (.dup, 1) := by decide +kernel
theorem dX6_peek_27 : decode cX6_peek 27 = .ok (.getfield 76, 3) := by decide +kernel
theorem dX6_peek_30 : decode cX6_peek 30 = .ok (.iconst 1, 1) := by decide +kernel
theorem dX6_peek_31 : decode cX6_peek 31 = .ok (.iadd, 1) := by decide +kernel
theorem dX6_peek_32 : decode cX6_peek 32 = .ok (.putfield 76, 3) := by decide +kernel
theorem dX6_peek_35 : decode cX6_peek 35 = .ok (.goto (-35), 3) := by decide +kernel
theorem dX6_peek_38 : decode cX6_peek 38 = .ok (.aload_n 0, 1) := by decide +kernel
theorem dX6_peek_39 : decode cX6_peek 39 = .ok (.getfield 76, 3) := by decide +kernel
theorem dX6_peek_42 : decode cX6_peek 42 = .ok (.aload_n 0, 1) := by decide +kernel
theorem dX6_peek_43 : decode cX6_peek 43 = .ok (.getfield 72, 3) := by decide +kernel
theorem dX6_peek_46 : decode cX6_peek 46 = .ok (.if_icmp .ge 15, 3) := by decide +kernel
theorem dX6_peek_49 : decode cX6_peek 49 = .ok (.aload_n 0, 1) := by decide +kernel
theorem dX6_peek_50 : decode cX6_peek 50 = .ok (.getfield 20, 3) := by decide +kernel
theorem dX6_peek_53 : decode cX6_peek 53 = .ok (.aload_n 0, 1) := by decide +kernel
theorem dX6_peek_54 : decode cX6_peek 54 = .ok (.getfield 76, 3) := by decide +kernel
theorem dX6_peek_57 : decode cX6_peek 57 = .ok (.iaload, 1) := by decide +kernel
theorem dX6_peek_58 : decode cX6_peek 58 = .ok (.goto 4, 3) := by decide +kernel
theorem dX6_peek_61 : decode cX6_peek 61 = .ok (.iconst 0, 1) := by decide +kernel
theorem dX6_peek_62 : decode cX6_peek 62 = .ok (.ireturn, 1) := by decide +kernel
theorem dX6_isSign_0 : decode cX6_isSign 0 = .ok (.aload_n 0, 1) := by decide +kernel
theorem dX6_isSign_1 : decode cX6_isSign 1 = .ok (.invokevirtual 79, 3) := by decide +kernel
theorem dX6_isSign_4 : decode cX6_isSign 4 = .ok (.iload_n 1, 1) := by decide +kernel
theorem dX6_isSign_5 : decode cX6_isSign 5 = .ok (.if_icmp .eq 5, 3) := by decide +kernel
theorem dX6_isSign_8 : decode cX6_isSign 8 = .ok (.iconst 0, 1) := by decide +kernel
theorem dX6_isSign_9 : decode cX6_isSign 9 = .ok (.ireturn, 1) := by decide +kernel
theorem dX6_isSign_10 : decode cX6_isSign 10 = .ok (.aload_n 0, 1) := by decide +kernel
theorem dX6_isSign_11 : decode cX6_isSign 11 = .ok (.dup, 1) := by decide +kernel
theorem dX6_isSign_12 : decode cX6_isSign 12 = .ok (.getfield 76, 3) := by decide +kernel
theorem dX6_isSign_15 : decode cX6_isSign 15 = .ok (.iconst 1, 1) := by decide +kernel
theorem dX6_isSign_16 : decode cX6_isSign 16 = .ok (.iadd, 1) := by decide +kernel
theorem dX6_isSign_17 : decode cX6_isSign 17 = .ok (.putfield 76, 3) := by decide +kernel
theorem dX6_isSign_20 : decode cX6_isSign 20 = .ok (.iconst 1, 1) := by decide +kernel
theorem dX6_isSign_21 : decode cX6_isSign 21 = .ok (.ireturn, 1) := by decide +kernel
theorem dX6_isDigit_0 : decode cX6_isDigit 0 = .ok (.aload_n 0, 1) := by decide +kernel
theorem dX6_isDigit_1 : decode cX6_isDigit 1 = .ok (.aload_n 0, 1) := by decide +kernel
theorem dX6_isDigit_2 : decode cX6_isDigit 2 = .ok (.invokevirtual 79, 3) := by decide +kernel
theorem dX6_isDigit_5 : decode cX6_isDigit 5 = .ok (.bipush 48, 2) := by decide +kernel
theorem dX6_isDigit_7 : decode cX6_isDigit 7 = .ok (.isub, 1) := by decide +kernel
theorem dX6_isDigit_8 : decode cX6_isDigit 8 = .ok (.putfield 83, 3) := by decide +kernel
theorem dX6_isDigit_11 : decode cX6_isDigit 11 = .ok (.aload_n 0, 1) := by decide +kernel
theorem dX6_isDigit_12 : decode cX6_isDigit 12 = .ok (.getfield 83, 3) := by decide +kernel
theorem dX6_isDigit_15 : decode cX6_isDigit 15 = .ok (.iload_n 1, 1) := by decide +kernel
theorem dX6_isDigit_16 : decode cX6_isDigit 16 = .ok (.iload_n 2, 1) := by decide +kernel
theorem dX6_isDigit_17 : decode cX6_isDigit 17 = .ok (.invokestatic 38, 3) := by decide +kernel
theorem dX6_isDigit_20 : decode cX6_isDigit 20 = .ok (.ifCond .ne 5, 3) := by decide +kernel
theorem dX6_isDigit_23 : decode cX6_isDigit 23 = .ok (.iconst 0, 1) := by decide +kernel
theorem dX6_isDigit_24 : decode cX6_isDigit 24 = .ok (.ireturn, 1) := by decide +kernel
theorem dX6_isDigit_25 : decode cX6_isDigit 25 = .ok (.aload_n 0, 1) := by decide +kernel
theorem dX6_isDigit_26 : decode cX6_isDigit 26 = .ok (.dup, 1) := by decide +kernel
theorem dX6_isDigit_27 : decode cX6_isDigit 27 = .ok (.getfield 76, 3) := by decide +kernel
theorem dX6_isDigit_30 : decode cX6_isDigit 30 = .ok (.iconst 1, 1) := by decide +kernel
theorem dX6_isDigit_31 : decode cX6_isDigit 31 = .ok (.iadd, 1) := by decide +kernel
theorem dX6_isDigit_32 : decode cX6_isDigit 32 = .ok (.putfield 76, 3) := by decide +kernel
theorem dX6_isDigit_35 : decode cX6_isDigit 35 = .ok (.iconst 1, 1) := by decide +kernel
theorem dX6_isDigit_36 : decode cX6_isDigit 36 = .ok (.ireturn, 1) := by decide +kernel
theorem dX6_isNumber_0 : decode cX6_isNumber 0 = .ok (.aload_n 0, 1) := by decide +kernel
theorem dX6_isNumber_1 : decode cX6_isNumber 1 = .ok (.iconst 0, 1) := by decide +kernel
theorem dX6_isNumber_2 : decode cX6_isNumber 2 = .ok (.bipush 9, 2) := by decide +kernel
theorem dX6_isNumber_4 : decode cX6_isNumber 4 = .ok (.invokevirtual 86, 3) := by decide +kernel
theorem dX6_isNumber_7 : decode cX6_isNumber 7 = .ok (.ifCond .ne 5, 3) := by decide +kernel
theorem dX6_isNumber_10 : decode cX6_isNumber 10 = .ok (.iconst 0, 1) := by decide +kernel
theorem dX6_isNumber_11 : decode cX6_isNumber 11 = .ok (.ireturn, 1) := by decide +kernel
theorem dX6_isNumber_12 : decode cX6_isNumber 12 = .ok (.aload_n 0, 1) := by decide +kernel
theorem dX6_isNumber_13 : decode cX6_isNumber 13 = .ok (.getfield 83, 3) := by decide +kernel
theorem dX6_isNumber_16 : decode cX6_isNumber 16 = .ok (.istore_n 1, 1) := by decide +kernel
theorem dX6_isNumber_17 : decode cX6_isNumber 17 = .ok (.aload_n 0, 1) := by decide +kernel
theorem dX6_isNumber_18 : decode cX6_isNumber 18 = .ok (.getfield 76, 3) := by decide +kernel
theorem dX6_isNumber_21 : decode cX6_isNumber 21 = .ok (.aload_n 0, 1) := by decide +kernel
theorem dX6_isNumber_22 : decode cX6_isNumber 22 = .ok (.getfield 72, 3) := by decide +kernel
theorem dX6_isNumber_25 : decode cX6_isNumber 25 = .ok (.if_icmp .ge 50, 3) := by decide +kernel
theorem dX6_isNumber_28 : decode cX6_isNumber 28 = .ok (.aload_n 0, 1) := by decide +kernel
theorem dX6_isNumber_29 : decode cX6_isNumber 29 = .ok (.getfield 20, 3) := by decide +kernel
theorem dX6_isNumber_32 : decode cX6_isNumber 32 = .ok (.aload_n 0, 1) := by decide +kernel
theorem dX6_isNumber_33 : decode cX6_isNumber 33 = .ok (.getfield 76, 3) := by decide +kernel
theorem dX6_isNumber_36 : decode cX6_isNumber 36 = .ok (.iaload, 1) := by decide +kernel
theorem dX6_isNumber_37 : decode cX6_isNumber 37 = .ok (.bipush 48, 2) := by decide +kernel
theorem dX6_isNumber_39 : decode cX6_isNumber 39 = .ok (.bipush 57, 2) := by decide +kernel
theorem dX6_isNumber_41 : decode cX6_isNumber 41 = .ok (.invokestatic 38, 3) := by decide +kernel
theorem dX6_isNumber_44 : decode cX6_isNumber 44 = .ok (.ifCond .eq 31, 3) := by decide +kernel
theorem dX6_isNumber_47 : decode cX6_isNumber 47 = .ok (.bipush 10, 2) := by decide +kernel
theorem dX6_isNumber_49 : decode cX6_isNumber 49 = .ok (.iload_n 1, 1) := by decide +kernel
theorem dX6_isNumber_50 : decode cX6_isNumber 50 = .ok (.imul, 1) := by decide +kernel
theorem dX6_isNumber_51 : decode cX6_isNumber 51 = .ok (.aload_n 0, 1) := by decide +kernel
theorem dX6_isNumber_52 : decode cX6_isNumber 52 = .ok (.getfield 20, 3) := by decide +kernel
theorem dX6_isNumber_55 : decode cX6_isNumber 55 = .ok (.aload_n 0, 1) := by decide +kernel
theorem dX6_isNumber_56 : decode cX6_isNumber 56 = .ok (.getfield 76, 3) := by decide +kernel
theorem dX6_isNumber_59 : decode cX6_isNumber 59 = .ok (.iaload, 1) := by decide +kernel
theorem dX6_isNumber_60 : decode cX6_isNumber 60 = .ok (.iadd, 1) := by decide +kernel
theorem dX6_isNumber_61 : decode cX6_isNumber 61 = .ok (.bipush 48, 2) := by decide +kernel
theorem dX6_isNumber_63 : decode cX6_isNumber 63 = .ok (.isub, 1) := by decide +kernel
theorem dX6_isNumber_64 : decode cX6_isNumber 64 = .ok (.istore_n 1, 1) := by decide +kernel
theorem dX6_isNumber_65 : decode cX6_isNumber 65 = .ok (.aload_n 0, 1) := by decide +kernel
theorem dX6_isNumber_66 : decode cX6_isNumber 66 = .ok (.dup, 1) := by decide +kernel
theorem dX6_isNumber_67 : decode cX6_isNumber 67 = .ok (.getfield 76, 3) := by decide +kernel
theorem dX6_isNumber_70 : decode cX6_isNumber 70 = .ok (.iconst 1, 1) := by decide +kernel
theorem dX6_isNumber_71 : decode cX6_isNumber 71 = .ok (.iadd, 1) := by decide +kernel
theorem dX6_isNumber_72 : decode cX6_isNumber 72 = .ok (.putfield 76, 3) := by decide +kernel
theorem dX6_isNumber_75 : decode cX6_isNumber 75 = .ok (.aload_n 0, 1) := by decide +kernel
theorem dX6_isNumber_76 : decode cX6_isNumber 76 = .ok (.iload_n 1, 1) := by decide +kernel
theorem dX6_isNumber_77 : decode cX6_isNumber 77 = .ok (.putfield 83, 3) := by decide +kernel
theorem dX6_isNumber_80 : decode cX6_isNumber 80 = .ok (.aload_n 0, 1) := by decide +kernel
theorem dX6_isNumber_81 : decode cX6_isNumber 81 = .ok (.getfield 76, 3) := by decide +kernel
theorem dX6_isNumber_84 : decode cX6_isNumber 84 = .ok (.aload_n 0, 1) := by decide +kernel
theorem dX6_isNumber_85 : decode cX6_isNumber 85 = .ok (.getfield 72, 3) := by decide +kernel
theorem dX6_isNumber_88 : decode cX6_isNumber 88 = .ok (.if_icmp .eq 22, 3) := by decide +kernel
theorem dX6_isNumber_91 : decode cX6_isNumber 91 = .ok (.aload_n 0, 1) := by decide +kernel
theorem dX6_isNumber_92 : decode cX6_isNumber 92 = .ok (.getfield 20, 3) := by decide +kernel
theorem dX6_isNumber_95 : decode cX6_isNumber 95 = .ok (.aload_n 0, 1) := by decide +kernel
theorem dX6_isNumber_96 : decode cX6_isNumber 96 = .ok (.getfield 76, 3) := by decide +kernel
theorem dX6_isNumber_99 : decode cX6_isNumber 99 = .ok (.iaload, 1) := by decide +kernel
theorem dX6_isNumber_100 : decode cX6_isNumber 100 = .ok (.bipush 48, 2) := by decide +kernel
theorem dX6_isNumber_102 : decode cX6_isNumber 102 = .ok (.bipush 57, 2) := by decide +kernel
theorem dX6_isNumber_104 : decode cX6_isNumber 104 = .ok (.invokestatic 38, 3) := by decide +kernel
theorem dX6_isNumber_107 : decode cX6_isNumber 107 = .ok (.ifCond .ne 7, 3) := by decide +kernel
theorem dX6_isNumber_110 : decode cX6_isNumber 110 = .ok (.iconst 1, 1) := by decide +kernel
theorem dX6_isNumber_111 : decode cX6_isNumber 111 = .ok (.goto 4, 3) := by decide +kernel
theorem dX6_isNumber_114 : decode cX6_isNumber 114 = .ok (.iconst 0, 1) := by decide +kernel
theorem dX6_isNumber_115 : decode cX6_isNumber 115 = .ok (.ireturn, 1) := by decide +kernel
theorem dX6_kindBy_0 : decode cX6_kindBy 0 = .ok (.iload_n 0, 1) := by decide +kernel
theorem dX6_kindBy_1 : decode cX6_kindBy 1 = .ok (.bipush 112, 2) := by decide +kernel
theorem dX6_kindBy_3 : decode cX6_kindBy 3 = .ok (.if_icmp .ne 7, 3) := by decide +kernel
theorem dX6_kindBy_6 : decode cX6_kindBy 6 = .ok (.iconst 0, 1) := by decide +kernel
theorem dX6_kindBy_7 : decode cX6_kindBy 7 = .ok (.goto 44, 3) := by decide +kernel
theorem dX6_kindBy_10 : decode cX6_kindBy 10 = .ok (.iload_n 0, 1) := by decide +kernel
theorem dX6_kindBy_11 : decode cX6_kindBy 11 = .ok (.bipush 102, 2) := by decide +kernel
theorem dX6_kindBy_13 : decode cX6_kindBy 13 = .ok (.if_icmp .ne 7, 3) := by decide +kernel
theorem dX6_kindBy_16 : decode cX6_kindBy 16 = .ok (.iconst 1, 1) := by decide +kernel
theorem dX6_kindBy_17 : decode cX6_kindBy 17 = .ok (.goto 34, 3) := by decide +kernel
theorem dX6_kindBy_20 : decode cX6_kindBy 20 = .ok (.iload_n 0, 1) := by decide +kernel
theorem dX6_kindBy_21 : decode cX6_kindBy 21 = .ok (.bipush 99, 2) := by decide +kernel
theorem dX6_kindBy_23 : decode cX6_kindBy 23 = .ok (.if_icmp .ne 7, 3) := by decide +kernel
theorem dX6_kindBy_26 : decode cX6_kindBy 26 = .ok (.iconst 2, 1) := by decide +kernel
theorem dX6_kindBy_27 : decode cX6_kindBy 27 = .ok (.goto 24, 3) := by decide +kernel
theorem dX6_kindBy_30 : decode cX6_kindBy 30 = .ok (.iload_n 0, 1) := by decide +kernel
theorem dX6_kindBy_31 : decode cX6_kindBy 31 = .ok (.bipush 100, 2) := by decide +kernel
theorem dX6_kindBy_33 : decode cX6_kindBy 33 = .ok (.if_icmp .ne 7, 3) := by decide +kernel
theorem dX6_kindBy_36 : decode cX6_kindBy 36 = .ok (.iconst 3, 1) := by decide +kernel
theorem dX6_kindBy_37 : decode cX6_kindBy 37 = .ok (.goto 14, 3) := by decide +kernel
theorem dX6_kindBy_40 : decode cX6_kindBy 40 = .ok (.iload_n 0, 1) := by decide +kernel
theorem dX6_kindBy_41 : decode cX6_kindBy 41 = .ok (.bipush 114, 2) := by decide +kernel
theorem dX6_kindBy_43 : decode cX6_kindBy 43 = .ok (.if_icmp .ne 7, 3) := by decide +kernel
theorem dX6_kindBy_46 : decode cX6_kindBy 46 = .ok (.iconst 4, 1) := by decide +kernel
theorem dX6_kindBy_47 : decode cX6_kindBy 47 = .ok (.goto 4, 3) := by decide +kernel
theorem dX6_kindBy_50 : decode cX6_kindBy 50 = .ok (.iconst (-1), 1) := by decide +kernel
theorem dX6_kindBy_51 : decode cX6_kindBy 51 = .ok (.ireturn, 1) := by decide +kernel
theorem dX6_isOneItem_0 : decode cX6_isOneItem 0 = .ok (.aload_n 0, 1) := by decide +kernel
theorem dX6_isOneItem_1 : decode cX6_isOneItem 1 = .ok (.invokevirtual 79, 3) := by decide +kernel
theorem dX6_isOneItem_4 : decode cX6_isOneItem 4 = .ok (.invokestatic 89, 3) := by decide +kernel
theorem dX6_isOneItem_7 : decode cX6_isOneItem 7 = .ok (.istore_n 1, 1) := by decide +kernel
theorem dX6_isOneItem_8 : decode cX6_isOneItem 8 = .ok (.iload_n 1, 1) := by decide +kernel
theorem dX6_isOneItem_9 : decode cX6_isOneItem 9 = .ok (.ifCond .ge 5, 3) := by decide +kernel
theorem dX6_isOneItem_12 : decode cX6_isOneItem 12 = .ok (.iconst 0, 1) := by decide +kernel
theorem dX6_isOneItem_13 : decode cX6_isOneItem 13 = .ok (.ireturn, 1) := by decide +kernel
theorem dX6_isOneItem_14 : decode cX6_isOneItem 14 = .ok (.aload_n 0, 1) := by decide +kernel
theorem dX6_isOneItem_15 : decode cX6_isOneItem 15 = .ok (.dup, 1) := by decide +kernel
theorem dX6_isOneItem_16 : decode cX6_isOneItem 16 = .ok (.getfield 76, 3) := by decide +kernel
theorem dX6_isOneItem_19 : decode cX6_isOneItem 19 = .ok (.iconst 1, 1) := by decide +kernel
theorem dX6_isOneItem_20 : decode cX6_isOneItem 20 = .ok (.iadd, 1) := by decide +kernel
theorem dX6_isOneItem_21 : decode cX6_isOneItem 21 = .ok (.putfield 76, 3) := by decide +kernel
theorem dX6_isOneItem_24 : decode cX6_isOneItem 24 = .ok (.aload_n 0, 1) := by decide +kernel
theorem dX6_isOneItem_25 : decode cX6_isOneItem 25 = .ok (.iconst 0, 1) := by decide +kernel
theorem dX6_isOneItem_26 : decode cX6_isOneItem 26 = .ok (.iconst 3, 1) := by decide +kernel
theorem dX6_isOneItem_27 : decode cX6_isOneItem 27 = .ok (.invokevirtual 86, 3) := by decide +kernel
theorem dX6_isOneItem_30 : decode cX6_isOneItem 30 = .ok (.ifCond .ne 5, 3) := by decide +kernel
theorem dX6_isOneItem_33 : decode cX6_isOneItem 33 = .ok (.iconst 0, 1) := by decide +kernel
theorem dX6_isOneItem_34 : decode cX6_isOneItem 34 = .ok (.ireturn, 1) := by decide +kernel
theorem dX6_isOneItem_35 : decode cX6_isOneItem 35 = .ok (.aload_n 0, 1) := by decide +kernel
theorem dX6_isOneItem_36 : decode cX6_isOneItem 36 = .ok (.getfield 83, 3) := by decide +kernel
theorem dX6_isOneItem_39 : decode cX6_isOneItem 39 = .ok (.istore_n 2, 1) := by decide +kernel
theorem dX6_isOneItem_40 : decode cX6_isOneItem 40 = .ok (.aload_n 0, 1) := by decide +kernel
theorem dX6_isOneItem_41 : decode cX6_isOneItem 41 = .ok (.iconst 0, 1) := by decide +kernel
theorem dX6_isOneItem_42 : decode cX6_isOneItem 42 = .ok (.bipush 9, 2) := by decide +kernel
theorem dX6_isOneItem_44 : decode cX6_isOneItem 44 = .ok (.invokevirtual 86, 3) := by decide +kernel
theorem dX6_isOneItem_47 : decode cX6_isOneItem 47 = .ok (.ifCond .ne 5, 3) := by decide +kernel
theorem dX6_isOneItem_50 : decode cX6_isOneItem 50 = .ok (.iconst 0, 1) := by decide +kernel
theorem dX6_isOneItem_51 : decode cX6_isOneItem 51 = .ok (.ireturn, 1) := by decide +kernel
theorem dX6_isOneItem_52 : decode cX6_isOneItem 52 = .ok (.aload_n 0, 1) := by decide +kernel
theorem dX6_isOneItem_53 : decode cX6_isOneItem 53 = .ok (.getfield 29, 3) := by decide +kernel
theorem dX6_isOneItem_56 : decode cX6_isOneItem 56 = .ok (.iload_n 1, 1) := by decide +kernel
theorem dX6_isOneItem_57 : decode cX6_isOneItem 57 = .ok (.iload_n 2, 1) := by decide +kernel
theorem dX6_isOneItem_58 : decode cX6_isOneItem 58 = .ok (.aload_n 0, 1) := by decide +kernel
theorem dX6_isOneItem_59 : decode cX6_isOneItem 59 = .ok (.getfield 83, 3) := by decide +kernel
theorem dX6_isOneItem_62 : decode cX6_isOneItem 62 = .ok (.invokestatic 42, 3) := by decide +kernel
theorem dX6_isOneItem_65 : decode cX6_isOneItem 65 = .ok (.istore_n 3, 1) := by decide +kernel
theorem dX6_isOneItem_66 : decode cX6_isOneItem 66 = .ok (.aload_n 0, 1) := by decide +kernel
theorem dX6_isOneItem_67 : decode cX6_isOneItem 67 = .ok (.bipush 61, 2) := by decide +kernel
theorem dX6_isOneItem_69 : decode cX6_isOneItem 69 = .ok (.invokevirtual 92, 3) := by decide +kernel
theorem dX6_isOneItem_72 : decode cX6_isOneItem 72 = .ok (.ifCond .eq 24, 3) := by decide +kernel
theorem dX6_isOneItem_75 : decode cX6_isOneItem 75 = .ok (.aload_n 0, 1) := by decide +kernel
theorem dX6_isOneItem_76 : decode cX6_isOneItem 76 = .ok (.invokevirtual 95, 3) := by decide +kernel
theorem dX6_isOneItem_79 : decode cX6_isOneItem 79 = .ok (.ifCond .ne 5, 3) := by decide +kernel
theorem dX6_isOneItem_82 : decode cX6_isOneItem 82 = .ok (.iconst 0, 1) := by decide +kernel
theorem dX6_isOneItem_83 : decode cX6_isOneItem 83 = .ok (.ireturn, 1) := by decide +kernel
theorem dX6_isOneItem_84 : decode cX6_isOneItem 84 = .ok (.aload_n 0, 1) := by decide +kernel
theorem dX6_isOneItem_85 : decode cX6_isOneItem 85 = .ok (.getfield 29, 3) := by decide +kernel
theorem dX6_isOneItem_88 : decode cX6_isOneItem 88 = .ok (.iconst 2, 1) := by decide +kernel
theorem dX6_isOneItem_89 : decode cX6_isOneItem 89 = .ok (.iload_n 3, 1) := by decide +kernel
theorem dX6_isOneItem_90 : decode cX6_isOneItem 90 = .ok (.iadd, 1) := by decide +kernel
theorem dX6_isOneItem_91 : decode cX6_isOneItem 91 = .ok (.aload_n 0, 1) := by decide +kernel
theorem dX6_isOneItem_92 : decode cX6_isOneItem 92 = .ok (.getfield 83, 3) := by decide +kernel
theorem dX6_isOneItem_95 : decode cX6_isOneItem 95 = .ok (.iastore, 1) := by decide +kernel
