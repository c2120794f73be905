theorem d_Mo_isSo_37 : decode b_Mo_isSo 37 = .ok (.iload_n 1, 1) := by decide +kernel
theorem d_Mo_isSo_38 : decode b_Mo_isSo 38 = .ok (.imul, 1) := by decide +kernel
theorem d_Mo_isSo_39 : decode b_Mo_isSo 39 = .ok (.iload 4, 2) := by decide +kernel
theorem d_Mo_isSo_41 : decode b_Mo_isSo 41 = .ok (.iadd, 1) := by decide +kernel
theorem d_Mo_isSo_42 : decode b_Mo_isSo 42 = .ok (.iaload, 1) := by decide +kernel
theorem d_Mo_isSo_43 : decode b_Mo_isSo 43 = .ok (.istore 5, 2) := by decide +kernel
theorem d_Mo_isSo_45 : decode b_Mo_isSo 45 = .ok (.aload_n 0, 1) := by decide +kernel
theorem d_Mo_isSo_46 : decode b_Mo_isSo 46 = .ok (.invokevirtual 157, 3) := by decide +kernel
theorem d_Mo_isSo_49 : decode b_Mo_isSo 49 = .ok (.iload 5, 2) := by decide +kernel
theorem d_Mo_isSo_51 : decode b_Mo_isSo 51 = .ok (.iconst (-1), 1) := by decide +kernel
theorem d_Mo_isSo_52 : decode b_Mo_isSo 52 = .ok (.if_icmp .eq 14, 3) := by decide +kernel
theorem d_Mo_isSo_55 : decode b_Mo_isSo 55 = .ok (.iload 5, 2) := by decide +kernel
theorem d_Mo_isSo_57 : decode b_Mo_isSo 57 = .ok (.aload_n 0, 1) := by decide +kernel
theorem d_Mo_isSo_58 : decode b_Mo_isSo 58 = .ok (.getfield 9, 3) := by decide +kernel
theorem d_Mo_isSo_61 : decode b_Mo_isSo 61 = .ok (.iload_n 2, 1) := by decide +kernel
theorem d_Mo_isSo_62 : decode b_Mo_isSo 62 = .ok (.iaload, 1) := by decide +kernel
theorem d_Mo_isSo_63 : decode b_Mo_isSo 63 = .ok (.if_icmp .ne 7, 3) := by decide +kernel
theorem d_Mo_isSo_66 : decode b_Mo_isSo 66 = .ok (.iconst 1, 1) := by decide +kernel
theorem d_Mo_isSo_67 : decode b_Mo_isSo 67 = .ok (.goto 4, 3) := by decide +kernel
theorem d_Mo_isSo_70 : decode b_Mo_isSo 70 = .ok (.iconst 0, 1) := by decide +kernel
theorem d_Mo_isSo_71 : decode b_Mo_isSo 71 = .ok (.istore_n 3, 1) := by decide +kernel
theorem d_Mo_isSo_72 : decode b_Mo_isSo 72 = .ok (.iinc 4 1, 3) := by decide +kernel
theorem d_Mo_isSo_75 : decode b_Mo_isSo 75 = .ok (.goto (-59), 3) := by decide +kernel
theorem d_Mo_isSo_78 : decode b_Mo_isSo 78 = .ok (.aload_n 0, 1) := by decide +kernel
theorem d_Mo_isSo_79 : decode b_Mo_isSo 79 = .ok (.getfield 16, 3) := by decide +kernel
theorem d_Mo_isSo_82 : decode b_Mo_isSo 82 = .ok (.aload_n 0, 1) := by decide +kernel
theorem d_Mo_isSo_83 : decode b_Mo_isSo 83 = .ok (.getfield 9, 3) := by decide +kernel
theorem d_Mo_isSo_86 : decode b_Mo_isSo 86 = .ok (.invokestatic 61, 3) := by decide +kernel
theorem d_Mo_isSo_89 : decode b_Mo_isSo 89 = .ok (.iload_n 3, 1) := by decide +kernel
theorem d_Mo_isSo_90 : decode b_Mo_isSo 90 = .ok (.ireturn, 1) := by decide +kernel
theorem d_Mo_fitting_0 : decode b_Mo_fitting 0 = .ok (.aload_n 0, 1) := by decide +kernel
theorem d_Mo_fitting_1 : decode b_Mo_fitting 1 = .ok (.getfield 9, 3) := by decide +kernel
theorem d_Mo_fitting_4 : decode b_Mo_fitting 4 = .ok (.iload_n 3, 1) := by decide +kernel
theorem d_Mo_fitting_5 : decode b_Mo_fitting 5 = .ok (.iaload, 1) := by decide +kernel
theorem d_Mo_fitting_6 : decode b_Mo_fitting 6 = .ok (.istore 5, 2) := by decide +kernel
theorem d_Mo_fitting_8 : decode b_Mo_fitting 8 = .ok (.iconst 0, 1) := by decide +kernel
theorem d_Mo_fitting_9 : decode b_Mo_fitting 9 = .ok (.istore 6, 2) := by decide +kernel
theorem d_Mo_fitting_11 : decode b_Mo_fitting 11 = .ok (.iconst 0, 1) := by decide +kernel
theorem d_Mo_fitting_12 : decode b_Mo_fitting 12 = .ok (.istore 7, 2) := by decide +kernel
theorem d_Mo_fitting_14 : decode b_Mo_fitting 14 = .ok (.iload 7, 2) := by decide +kernel
theorem d_Mo_fitting_16 : decode b_Mo_fitting 16 = .ok (.iload 4, 2) := by decide +kernel
theorem d_Mo_fitting_18 : decode b_Mo_fitting 18 = .ok (.if_icmp .ge 39, 3) := by decide +kernel
theorem d_Mo_fitting_21 : decode b_Mo_fitting 21 = .ok (.aload_n 0, 1) := by decide +kernel
theorem d_Mo_fitting_22 : decode b_Mo_fitting 22 = .ok (.getfield 9, 3) := by decide +kernel
theorem d_Mo_fitting_25 : decode b_Mo_fitting 25 = .ok (.iload_n 3, 1) := by decide +kernel
theorem d_Mo_fitting_26 : decode b_Mo_fitting 26 = .ok (.iload 7, 2) := by decide +kernel
theorem d_Mo_fitting_28 : decode b_Mo_fitting 28 = .ok (.iastore, 1) := by decide +kernel
theorem d_Mo_fitting_29 : decode b_Mo_fitting 29 = .ok (.iload 6, 2) := by decide +kernel
theorem d_Mo_fitting_31 : decode b_Mo_fitting 31 = .ok (.aload_n 0, 1) := by decide +kernel
theorem d_Mo_fitting_32 : decode b_Mo_fitting 32 = .ok (.iload_n 1, 1) := by decide +kernel
theorem d_Mo_fitting_33 : decode b_Mo_fitting 33 = .ok (.iload_n 2, 1) := by decide +kernel
theorem d_Mo_fitting_34 : decode b_Mo_fitting 34 = .ok (.invokevirtual 215, 3) := by decide +kernel
theorem d_Mo_fitting_37 : decode b_Mo_fitting 37 = .ok (.ifCond .eq 10, 3) := by decide +kernel
theorem d_Mo_fitting_40 : decode b_Mo_fitting 40 = .ok (.iconst 1, 1) := by decide +kernel
theorem d_Mo_fitting_41 : decode b_Mo_fitting 41 = .ok (.iload 7, 2) := by decide +kernel
theorem d_Mo_fitting_43 : decode b_Mo_fitting 43 = .ok (.ishl, 1) := by decide +kernel
theorem d_Mo_fitting_44 : decode b_Mo_fitting 44 = .ok (.goto 4, 3) := by decide +kernel
theorem d_Mo_fitting_47 : decode b_Mo_fitting 47 = .ok (.iconst 0, 1) := by decide +kernel
theorem d_Mo_fitting_48 : decode b_Mo_fitting 48 = .ok (.ior, 1) := by decide +kernel
theorem d_Mo_fitting_49 : decode b_Mo_fitting 49 = .ok (.istore 6, 2) := by decide +kernel
theorem d_Mo_fitting_51 : decode b_Mo_fitting 51 = .ok (.iinc 7 1, 3) := by decide +kernel
theorem d_Mo_fitting_54 : decode b_Mo_fitting 54 = .ok (.goto (-40), 3) := by decide +kernel
theorem d_Mo_fitting_57 : decode b_Mo_fitting 57 = .ok (.aload_n 0, 1) := by decide +kernel
theorem d_Mo_fitting_58 : decode b_Mo_fitting 58 = .ok (.getfield 9, 3) := by decide +kernel
theorem d_Mo_fitting_61 : decode b_Mo_fitting 61 = .ok (.iload_n 3, 1) := by decide +kernel
theorem d_Mo_fitting_62 : decode b_Mo_fitting 62 = .ok (.iload 5, 2) := by decide +kernel
theorem d_Mo_fitting_64 : decode b_Mo_fitting 64 = .ok (.iastore, 1) := by decide +kernel
theorem d_Mo_fitting_65 : decode b_Mo_fitting 65 = .ok (.iload 6, 2) := by decide +kernel
theorem d_Mo_fitting_67 : decode b_Mo_fitting 67 = .ok (.ireturn, 1) := by decide +kernel
theorem d_Mo_fits_0 : decode b_Mo_fits 0 = .ok (.aload_n 0, 1) := by decide +kernel
theorem d_Mo_fits_1 : decode b_Mo_fits 1 = .ok (.iload_n 1, 1) := by decide +kernel
theorem d_Mo_fits_2 : decode b_Mo_fits 2 = .ok (.aload_n 0, 1) := by decide +kernel
theorem d_Mo_fits_3 : decode b_Mo_fits 3 = .ok (.iload_n 2, 1) := by decide +kernel
theorem d_Mo_fits_4 : decode b_Mo_fits 4 = .ok (.invokevirtual 121, 3) := by decide +kernel
theorem d_Mo_fits_7 : decode b_Mo_fits 7 = .ok (.invokevirtual 218, 3) := by decide +kernel
theorem d_Mo_fits_10 : decode b_Mo_fits 10 = .ok (.istore_n 3, 1) := by decide +kernel
theorem d_Mo_fits_11 : decode b_Mo_fits 11 = .ok (.iload_n 3, 1) := by decide +kernel
theorem d_Mo_fits_12 : decode b_Mo_fits 12 = .ok (.ifCond .eq 11, 3) := by decide +kernel
theorem d_Mo_fits_15 : decode b_Mo_fits 15 = .ok (.aload_n 0, 1) := by decide +kernel
theorem d_Mo_fits_16 : decode b_Mo_fits 16 = .ok (.iload_n 3, 1) := by decide +kernel
theorem d_Mo_fits_17 : decode b_Mo_fits 17 = .ok (.invokevirtual 66, 3) := by decide +kernel
theorem d_Mo_fits_20 : decode b_Mo_fits 20 = .ok (.goto 20, 3) := by decide +kernel
theorem d_Mo_fits_23 : decode b_Mo_fits 23 = .ok (.aload_n 0, 1) := by decide +kernel
theorem d_Mo_fits_24 : decode b_Mo_fits 24 = .ok (.iload_n 1, 1) := by decide +kernel
theorem d_Mo_fits_25 : decode b_Mo_fits 25 = .ok (.iload_n 2, 1) := by decide +kernel
theorem d_Mo_fits_26 : decode b_Mo_fits 26 = .ok (.iconst 2, 1) := by decide +kernel
theorem d_Mo_fits_27 : decode b_Mo_fits 27 = .ok (.invokestatic 88, 3) := by decide +kernel
theorem d_Mo_fits_30 : decode b_Mo_fits 30 = .ok (.iload_n 2, 1) := by decide +kernel
theorem d_Mo_fits_31 : decode b_Mo_fits 31 = .ok (.iconst 2, 1) := by decide +kernel
theorem d_Mo_fits_32 : decode b_Mo_fits 32 = .ok (.invokestatic 88, 3) := by decide +kernel
theorem d_Mo_fits_35 : decode b_Mo_fits 35 = .ok (.bipush 16, 2) := by decide +kernel
theorem d_Mo_fits_37 : decode b_Mo_fits 37 = .ok (.invokevirtual 222, 3) := by decide +kernel
theorem d_Mo_fits_40 : decode b_Mo_fits 40 = .ok (.ireturn, 1) := by decide +kernel
theorem d_Mo_kinds_0 : decode b_Mo_kinds 0 = .ok (.aload_n 0, 1) := by decide +kernel
theorem d_Mo_kinds_1 : decode b_Mo_kinds 1 = .ok (.iload_n 1, 1) := by decide +kernel
theorem d_Mo_kinds_2 : decode b_Mo_kinds 2 = .ok (.aload_n 0, 1) := by decide +kernel
theorem d_Mo_kinds_3 : decode b_Mo_kinds 3 = .ok (.iload_n 2, 1) := by decide +kernel
theorem d_Mo_kinds_4 : decode b_Mo_kinds 4 = .ok (.invokevirtual 121, 3) := by decide +kernel
theorem d_Mo_kinds_7 : decode b_Mo_kinds 7 = .ok (.invokevirtual 218, 3) := by decide +kernel
theorem d_Mo_kinds_10 : decode b_Mo_kinds 10 = .ok (.istore_n 3, 1) := by decide +kernel
theorem d_Mo_kinds_11 : decode b_Mo_kinds 11 = .ok (.iload_n 3, 1) := by decide +kernel
theorem d_Mo_kinds_12 : decode b_Mo_kinds 12 = .ok (.ifCond .eq 11, 3) := by decide +kernel
theorem d_Mo_kinds_15 : decode b_Mo_kinds 15 = .ok (.aload_n 0, 1) := by decide +kernel
theorem d_Mo_kinds_16 : decode b_Mo_kinds 16 = .ok (.iload_n 3, 1) := by decide +kernel
theorem d_Mo_kinds_17 : decode b_Mo_kinds 17 = .ok (.invokevirtual 66, 3) := by decide +kernel
theorem d_Mo_kinds_20 : decode b_Mo_kinds 20 = .ok (.goto 20, 3) := by decide +kernel
theorem d_Mo_kinds_23 : decode b_Mo_kinds 23 = .ok (.aload_n 0, 1) := by decide +kernel
theorem d_Mo_kinds_24 : decode b_Mo_kinds 24 = .ok (.iload_n 1, 1) := by decide +kernel
theorem d_Mo_kinds_25 : decode b_Mo_kinds 25 = .ok (.iload_n 2, 1) := by decide +kernel
theorem d_Mo_kinds_26 : decode b_Mo_kinds 26 = .ok (.iconst 2, 1) := by decide +kernel
theorem d_Mo_kinds_27 : decode b_Mo_kinds 27 = .ok (.invokestatic 88, 3) := by decide +kernel
theorem d_Mo_kinds_30 : decode b_Mo_kinds 30 = .ok (.iload_n 2, 1) := by decide +kernel
theorem d_Mo_kinds_31 : decode b_Mo_kinds 31 = .ok (.iconst 0, 1) := by decide +kernel
theorem d_Mo_kinds_32 : decode b_Mo_kinds 32 = .ok (.invokestatic 88, 3) := by decide +kernel
theorem d_Mo_kinds_35 : decode b_Mo_kinds 35 = .ok (.bipush 7, 2) := by decide +kernel
theorem d_Mo_kinds_37 : decode b_Mo_kinds 37 = .ok (.invokevirtual 222, 3) := by decide +kernel
theorem d_Mo_kinds_40 : decode b_Mo_kinds 40 = .ok (.ireturn, 1) := by decide +kernel
theorem d_Mo_drawn_0 : decode b_Mo_drawn 0 = .ok (.aload_n 0, 1) := by decide +kernel
theorem d_Mo_drawn_1 : decode b_Mo_drawn 1 = .ok (.getfield 9, 3) := by decide +kernel
theorem d_Mo_drawn_4 : decode b_Mo_drawn 4 = .ok (.iconst 2, 1) := by decide +kernel
theorem d_Mo_drawn_5 : decode b_Mo_drawn 5 = .ok (.aload_n 0, 1) := by decide +kernel
theorem d_Mo_drawn_6 : decode b_Mo_drawn 6 = .ok (.getfield 9, 3) := by decide +kernel
theorem d_Mo_drawn_9 : decode b_Mo_drawn 9 = .ok (.iconst 2, 1) := by decide +kernel
theorem d_Mo_drawn_10 : decode b_Mo_drawn 10 = .ok (.iaload, 1) := by decide +kernel
theorem d_Mo_drawn_11 : decode b_Mo_drawn 11 = .ok (.ldc 226, 2) := by decide +kernel
theorem d_Mo_drawn_13 : decode b_Mo_drawn 13 = .ok (.imul, 1) := by decide +kernel
theorem d_Mo_drawn_14 : decode b_Mo_drawn 14 = .ok (.sipush 12345, 3) := by decide +kernel
theorem d_Mo_drawn_17 : decode b_Mo_drawn 17 = .ok (.iadd, 1) := by decide +kernel
theorem d_Mo_drawn_18 : decode b_Mo_drawn 18 = .ok (.iastore, 1) := by decide +kernel
theorem d_Mo_drawn_19 : decode b_Mo_drawn 19 = .ok (.aload_n 0, 1) := by decide +kernel
theorem d_Mo_drawn_20 : decode b_Mo_drawn 20 = .ok (.getfield 9, 3) := by decide +kernel
theorem d_Mo_drawn_23 : decode b_Mo_drawn 23 = .ok (.iconst 2, 1) := by decide +kernel
theorem d_Mo_drawn_24 : decode b_Mo_drawn 24 = .ok (.iaload, 1) := by decide +kernel
theorem d_Mo_drawn_25 : decode b_Mo_drawn 25 = .ok (.bipush 8, 2) := by decide +kernel
theorem d_Mo_drawn_27 : decode b_Mo_drawn 27 = .ok (.iushr, 1) := by decide +kernel
theorem d_Mo_drawn_28 : decode b_Mo_drawn 28 = .ok (.ireturn, 1) := by decide +kernel
theorem d_Mo_stroll_0 : decode b_Mo_stroll 0 = .ok (.iload_n 1, 1) := by decide +kernel
theorem d_Mo_stroll_1 : decode b_Mo_stroll 1 = .ok (.iconst 1, 1) := by decide +kernel
theorem d_Mo_stroll_2 : decode b_Mo_stroll 2 = .ok (.bipush 20, 2) := by decide +kernel
theorem d_Mo_stroll_4 : decode b_Mo_stroll 4 = .ok (.invokestatic 70, 3) := by decide +kernel
theorem d_Mo_stroll_7 : decode b_Mo_stroll 7 = .ok (.ifCond .ne 10, 3) := by decide +kernel
theorem d_Mo_stroll_10 : decode b_Mo_stroll 10 = .ok (.aload_n 0, 1) := by decide +kernel
theorem d_Mo_stroll_11 : decode b_Mo_stroll 11 = .ok (.ldc 60, 2) := by decide +kernel
theorem d_Mo_stroll_13 : decode b_Mo_stroll 13 = .ok (.invokevirtual 66, 3) := by decide +kernel
theorem d_Mo_stroll_16 : decode b_Mo_stroll 16 = .ok (.ireturn, 1) := by decide +kernel
theorem d_Mo_stroll_17 : decode b_Mo_stroll 17 = .ok (.aload_n 0, 1) := by decide +kernel
theorem d_Mo_stroll_18 : decode b_Mo_stroll 18 = .ok (.getfield 9, 3) := by decide +kernel
theorem d_Mo_stroll_21 : decode b_Mo_stroll 21 = .ok (.iconst 0, 1) := by decide +kernel
theorem d_Mo_stroll_22 : decode b_Mo_stroll 22 = .ok (.iaload, 1) := by decide +kernel
theorem d_Mo_stroll_23 : decode b_Mo_stroll 23 = .ok (.iload_n 1, 1) := by decide +kernel
theorem d_Mo_stroll_24 : decode b_Mo_stroll 24 = .ok (.iadd, 1) := by decide +kernel
theorem d_Mo_stroll_25 : decode b_Mo_stroll 25 = .ok (.ldc 156, 2) := by decide +kernel
theorem d_Mo_stroll_27 : decode b_Mo_stroll 27 = .ok (.if_icmp .le 10, 3) := by decide +kernel
theorem d_Mo_stroll_30 : decode b_Mo_stroll 30 = .ok (.aload_n 0, 1) := by decide +kernel
theorem d_Mo_stroll_31 : decode b_Mo_stroll 31 = .ok (.ldc 160, 2) := by decide +kernel
theorem d_Mo_stroll_33 : decode b_Mo_stroll 33 = .ok (.invokevirtual 66, 3) := by decide +kernel
theorem d_Mo_stroll_36 : decode b_Mo_stroll 36 = .ok (.ireturn, 1) := by decide +kernel
theorem d_Mo_stroll_37 : decode b_Mo_stroll 37 = .ok (.iconst 0, 1) := by decide +kernel
theorem d_Mo_stroll_38 : decode b_Mo_stroll 38 = .ok (.istore_n 2, 1) := by decide +kernel
theorem d_Mo_stroll_39 : decode b_Mo_stroll 39 = .ok (.iload_n 2, 1) := by decide +kernel
theorem d_Mo_stroll_40 : decode b_Mo_stroll 40 = .ok (.iload_n 1, 1) := by decide +kernel
theorem d_Mo_stroll_41 : decode b_Mo_stroll 41 = .ok (.if_icmp .ge 62, 3) := by decide +kernel
theorem d_Mo_stroll_44 : decode b_Mo_stroll 44 = .ok (.aload_n 0, 1) := by decide +kernel
theorem d_Mo_stroll_45 : decode b_Mo_stroll 45 = .ok (.invokevirtual 227, 3) := by decide +kernel
theorem d_Mo_stroll_48 : decode b_Mo_stroll 48 = .ok (.bipush 16, 2) := by decide +kernel
theorem d_Mo_stroll_50 : decode b_Mo_stroll 50 = .ok (.irem, 1) := by decide +kernel
theorem d_Mo_stroll_51 : decode b_Mo_stroll 51 = .ok (.istore_n 3, 1) := by decide +kernel
theorem d_Mo_stroll_52 : decode b_Mo_stroll 52 = .ok (.aload_n 0, 1) := by decide +kernel
theorem d_Mo_stroll_53 : decode b_Mo_stroll 53 = .ok (.getfield 9, 3) := by decide +kernel
theorem d_Mo_stroll_56 : decode b_Mo_stroll 56 = .ok (.aload_n 0, 1) := by decide +kernel
theorem d_Mo_stroll_57 : decode b_Mo_stroll 57 = .ok (.invokevirtual 145, 3) := by decide +kernel
theorem d_Mo_stroll_60 : decode b_Mo_stroll 60 = .ok (.iload_n 3, 1) := by decide +kernel
theorem d_Mo_stroll_61 : decode b_Mo_stroll 61 = .ok (.iastore, 1) := by decide +kernel
theorem d_Mo_stroll_62 : decode b_Mo_stroll 62 = .ok (.aload_n 0, 1) := by decide +kernel
theorem d_Mo_stroll_63 : decode b_Mo_stroll 63 = .ok (.invokevirtual 227, 3) := by decide +kernel
theorem d_Mo_stroll_66 : decode b_Mo_stroll 66 = .ok (.bipush 8, 2) := by decide +kernel
theorem d_Mo_stroll_68 : decode b_Mo_stroll 68 = .ok (.irem, 1) := by decide +kernel
theorem d_Mo_stroll_69 : decode b_Mo_stroll 69 = .ok (.istore 4, 2) := by decide +kernel
theorem d_Mo_stroll_71 : decode b_Mo_stroll 71 = .ok (.aload_n 0, 1) := by decide +kernel
theorem d_Mo_stroll_72 : decode b_Mo_stroll 72 = .ok (.iload 4, 2) := by decide +kernel
theorem d_Mo_stroll_74 : decode b_Mo_stroll 74 = .ok (.invokevirtual 121, 3) := by decide +kernel
theorem d_Mo_stroll_77 : decode b_Mo_stroll 77 = .ok (.ifCond .eq 16, 3) := by decide +kernel
theorem d_Mo_stroll_80 : decode b_Mo_stroll 80 = .ok (.aload_n 0, 1) := by decide +kernel
theorem d_Mo_stroll_81 : decode b_Mo_stroll 81 = .ok (.iload 4, 2) := by decide +kernel
theorem d_Mo_stroll_83 : decode b_Mo_stroll 83 = .ok (.iconst 4, 1) := by decide +kernel
theorem d_Mo_stroll_84 : decode b_Mo_stroll 84 = .ok (.invokestatic 88, 3) := by decide +kernel
theorem d_Mo_stroll_87 : decode b_Mo_stroll 87 = .ok (.iconst 1, 1) := by decide +kernel
theorem d_Mo_stroll_88 : decode b_Mo_stroll 88 = .ok (.bipush 9, 2) := by decide +kernel
theorem d_Mo_stroll_90 : decode b_Mo_stroll 90 = .ok (.invokevirtual 141, 3) := by decide +kernel
theorem d_Mo_stroll_93 : decode b_Mo_stroll 93 = .ok (.aload_n 0, 1) := by decide +kernel
theorem d_Mo_stroll_94 : decode b_Mo_stroll 94 = .ok (.invokevirtual 157, 3) := by decide +kernel
theorem d_Mo_stroll_97 : decode b_Mo_stroll 97 = .ok (.iinc 2 1, 3) := by decide +kernel
theorem d_Mo_stroll_100 : decode b_Mo_stroll 100 = .ok (.goto (-61), 3) := by decide +kernel
theorem d_Mo_stroll_103 : decode b_Mo_stroll 103 = .ok (.aload_n 0, 1) := by decide +kernel
theorem d_Mo_stroll_104 : decode b_Mo_stroll 104 = .ok (.getfield 9, 3) := by decide +kernel
theorem d_Mo_stroll_107 : decode b_Mo_stroll 107 = .ok (.iconst 3, 1) := by decide +kernel
theorem d_Mo_stroll_108 : decode b_Mo_stroll 108 = .ok (.iaload, 1) := by decide +kernel
theorem d_Mo_stroll_109 : decode b_Mo_stroll 109 = .ok (.ireturn, 1) := by decide +kernel
theorem d_Mo_meetsSomebodyAt_0 : decode b_Mo_meetsSomebodyAt 0 = .ok (.iload_n 1, 1) := by decide +kernel
theorem d_Mo_meetsSomebodyAt_1 : decode b_Mo_meetsSomebodyAt 1 = .ok (.iconst 2, 1) := by decide +kernel
theorem d_Mo_meetsSomebodyAt_2 : decode b_Mo_meetsSomebodyAt 2 = .ok (.invokestatic 88, 3) := by decide +kernel
theorem d_Mo_meetsSomebodyAt_5 : decode b_Mo_meetsSomebodyAt 5 = .ok (.istore_n 3, 1) := by decide +kernel
theorem d_Mo_meetsSomebodyAt_6 : decode b_Mo_meetsSomebodyAt 6 = .ok (.aload_n 0, 1) := by decide +kernel
theorem d_Mo_meetsSomebodyAt_7 : decode b_Mo_meetsSomebodyAt 7 = .ok (.getfield 9, 3) := by decide +kernel
theorem d_Mo_meetsSomebodyAt_10 : decode b_Mo_meetsSomebodyAt 10 = .ok (.iload_n 3, 1) := by decide +kernel
theorem d_Mo_meetsSomebodyAt_11 : decode b_Mo_meetsSomebodyAt 11 = .ok (.iaload, 1) := by decide +kernel
theorem d_Mo_meetsSomebodyAt_12 : decode b_Mo_meetsSomebodyAt 12 = .ok (.istore 4, 2) := by decide +kernel
theorem d_Mo_meetsSomebodyAt_14 : decode b_Mo_meetsSomebodyAt 14 = .ok (.aload_n 0, 1) := by decide +kernel
theorem d_Mo_meetsSomebodyAt_15 : decode b_Mo_meetsSomebodyAt 15 = .ok (.getfield 9, 3) := by decide +kernel
theorem d_Mo_meetsSomebodyAt_18 : decode b_Mo_meetsSomebodyAt 18 = .ok (.iload_n 3, 1) := by decide +kernel
theorem d_Mo_meetsSomebodyAt_19 : decode b_Mo_meetsSomebodyAt 19 = .ok (.iload_n 2, 1) := by decide +kernel
theorem d_Mo_meetsSomebodyAt_20 : decode b_Mo_meetsSomebodyAt 20 = .ok (.iastore, 1) := by decide +kernel
theorem d_Mo_meetsSomebodyAt_21 : decode b_Mo_meetsSomebodyAt 21 = .ok (.iconst 0, 1) := by decide +kernel
theorem d_Mo_meetsSomebodyAt_22 : decode b_Mo_meetsSomebodyAt 22 = .ok (.istore 5, 2) := by decide +kernel
theorem d_Mo_meetsSomebodyAt_24 : decode b_Mo_meetsSomebodyAt 24 = .ok (.iconst 0, 1) := by decide +kernel
theorem d_Mo_meetsSomebodyAt_25 : decode b_Mo_meetsSomebodyAt 25 = .ok (.istore 6, 2) := by decide +kernel
theorem d_Mo_meetsSomebodyAt_27 : decode b_Mo_meetsSomebodyAt 27 = .ok (.iload 6, 2) := by decide +kernel
theorem d_Mo_meetsSomebodyAt_29 : decode b_Mo_meetsSomebodyAt 29 = .ok (.aload_n 0, 1) := by decide +kernel
theorem d_Mo_meetsSomebodyAt_30 : decode b_Mo_meetsSomebodyAt 30 = .ok (.getfield 9, 3) := by decide +kernel
theorem d_Mo_meetsSomebodyAt_33 : decode b_Mo_meetsSomebodyAt 33 = .ok (.iconst 1, 1) := by decide +kernel
theorem d_Mo_meetsSomebodyAt_34 : decode b_Mo_meetsSomebodyAt 34 = .ok (.iaload, 1) := by decide +kernel
theorem d_Mo_meetsSomebodyAt_35 : decode b_Mo_meetsSomebodyAt 35 = .ok (.if_icmp .ge 37, 3) := by decide +kernel
theorem d_Mo_meetsSomebodyAt_38 : decode b_Mo_meetsSomebodyAt 38 = .ok (.iload 5, 2) := by decide +kernel
theorem d_Mo_meetsSomebodyAt_40 : decode b_Mo_meetsSomebodyAt 40 = .ok (.ifCond .ne 19, 3) := by decide +kernel
theorem d_Mo_meetsSomebodyAt_43 : decode b_Mo_meetsSomebodyAt 43 = .ok (.iload 6, 2) := by decide +kernel
theorem d_Mo_meetsSomebodyAt_45 : decode b_Mo_meetsSomebodyAt 45 = .ok (.iload_n 1, 1) := by decide +kernel
theorem d_Mo_meetsSomebodyAt_46 : decode b_Mo_meetsSomebodyAt 46 = .ok (.if_icmp .eq 17, 3) := by decide +kernel
theorem d_Mo_meetsSomebodyAt_49 : decode b_Mo_meetsSomebodyAt 49 = .ok (.aload_n 0, 1) := by decide +kernel
theorem d_Mo_meetsSomebodyAt_50 : decode b_Mo_meetsSomebodyAt 50 = .ok (.iload_n 1, 1) := by decide +kernel
theorem d_Mo_meetsSomebodyAt_51 : decode b_Mo_meetsSomebodyAt 51 = .ok (.iload 6, 2) := by decide +kernel
theorem d_Mo_meetsSomebodyAt_53 : decode b_Mo_meetsSomebodyAt 53 = .ok (.invokevirtual 131, 3) := by decide +kernel
theorem d_Mo_meetsSomebodyAt_56 : decode b_Mo_meetsSomebodyAt 56 = .ok (.ifCond .eq 7, 3) := by decide +kernel
theorem d_Mo_meetsSomebodyAt_59 : decode b_Mo_meetsSomebodyAt 59 = .ok (.iconst 1, 1) := by decide +kernel
theorem d_Mo_meetsSomebodyAt_60 : decode b_Mo_meetsSomebodyAt 60 = .ok (.goto 4, 3) := by decide +kernel
theorem d_Mo_meetsSomebodyAt_63 : decode b_Mo_meetsSomebodyAt 63 = .ok (.iconst 0, 1) := by decide +kernel
theorem d_Mo_meetsSomebodyAt_64 : decode b_Mo_meetsSomebodyAt 64 = .ok (.istore 5, 2) := by decide +kernel
theorem d_Mo_meetsSomebodyAt_66 : decode b_Mo_meetsSomebodyAt 66 = .ok (.iinc 6 1, 3) := by decide +kernel
theorem d_Mo_meetsSomebodyAt_69 : decode b_Mo_meetsSomebodyAt 69 = .ok (.goto (-42), 3) := by decide +kernel
theorem d_Mo_meetsSomebodyAt_72 : decode b_Mo_meetsSomebodyAt 72 = .ok (.aload_n 0, 1) := by decide +kernel
theorem d_Mo_meetsSomebodyAt_73 : decode b_Mo_meetsSomebodyAt 73 = .ok (.getfield 9, 3) := by decide +kernel
theorem d_Mo_meetsSomebodyAt_76 : decode b_Mo_meetsSomebodyAt 76 = .ok (.iload_n 3, 1) := by decide +kernel
theorem d_Mo_meetsSomebodyAt_77 : decode b_Mo_meetsSomebodyAt 77 = .ok (.iload 4, 2) := by decide +kernel
theorem d_Mo_meetsSomebodyAt_79 : decode b_Mo_meetsSomebodyAt 79 = .ok (.iastore, 1) := by decide +kernel
theorem d_Mo_meetsSomebodyAt_80 : decode b_Mo_meetsSomebodyAt 80 = .ok (.iload 5, 2) := by decide +kernel
theorem d_Mo_meetsSomebodyAt_82 : decode b_Mo_meetsSomebodyAt 82 = .ok (.ireturn, 1) := by decide +kernel
theorem d_Mo_odds_0 : decode b_Mo_odds 0 = .ok (.aload_n 0, 1) := by decide +kernel
theorem d_Mo_odds_1 : decode b_Mo_odds 1 = .ok (.iload_n 1, 1) := by decide +kernel
theorem d_Mo_odds_2 : decode b_Mo_odds 2 = .ok (.invokevirtual 121, 3) := by decide +kernel
theorem d_Mo_odds_5 : decode b_Mo_odds 5 = .ok (.ifCond .eq 22, 3) := by decide +kernel
theorem d_Mo_odds_8 : decode b_Mo_odds 8 = .ok (.iload_n 2, 1) := by decide +kernel
theorem d_Mo_odds_9 : decode b_Mo_odds 9 = .ok (.iconst 0, 1) := by decide +kernel
theorem d_Mo_odds_10 : decode b_Mo_odds 10 = .ok (.bipush 15, 2) := by decide +kernel
theorem d_Mo_odds_12 : decode b_Mo_odds 12 = .ok (.invokestatic 70, 3) := by decide +kernel
theorem d_Mo_odds_15 : decode b_Mo_odds 15 = .ok (.ifCond .eq 12, 3) := by decide +kernel
theorem d_Mo_odds_18 : decode b_Mo_odds 18 = .ok (.iload_n 3, 1) := by decide +kernel
theorem d_Mo_odds_19 : decode b_Mo_odds 19 = .ok (.iconst 0, 1) := by decide +kernel
theorem d_Mo_odds_20 : decode b_Mo_odds 20 = .ok (.iconst 1, 1) := by decide +kernel
theorem d_Mo_odds_21 : decode b_Mo_odds 21 = .ok (.invokestatic 70, 3) := by decide +kernel
theorem d_Mo_odds_24 : decode b_Mo_odds 24 = .ok (.ifCond .ne 11, 3) := by decide +kernel
theorem d_Mo_odds_27 : decode b_Mo_odds 27 = .ok (.aload_n 0, 1) := by decide +kernel
theorem d_Mo_odds_28 : decode b_Mo_odds 28 = .ok (.ldc 60, 2) := by decide +kernel
theorem d_Mo_odds_30 : decode b_Mo_odds 30 = .ok (.invokevirtual 66, 3) := by decide +kernel
theorem d_Mo_odds_33 : decode b_Mo_odds 33 = .ok (.i2l, 1) := by decide +kernel
theorem d_Mo_odds_34 : decode b_Mo_odds 34 = .ok (.lreturn, 1) := by decide +kernel
theorem d_Mo_odds_35 : decode b_Mo_odds 35 = .ok (.iconst 0, 1) := by decide +kernel
theorem d_Mo_odds_36 : decode b_Mo_odds 36 = .ok (.istore 4, 2) := by decide +kernel
theorem d_Mo_odds_38 : decode b_Mo_odds 38 = .ok (.iconst 0, 1) := by decide +kernel
theorem d_Mo_odds_39 : decode b_Mo_odds 39 = .ok (.istore 5, 2) := by decide +kernel
theorem d_Mo_odds_41 : decode b_Mo_odds 41 = .ok (.iload 5, 2) := by decide +kernel
theorem d_Mo_odds_43 : decode b_Mo_odds 43 = .ok (.bipush 16, 2) := by decide +kernel
theorem d_Mo_odds_45 : decode b_Mo_odds 45 = .ok (.if_icmp .ge 29, 3) := by decide +kernel
theorem d_Mo_odds_48 : decode b_Mo_odds 48 = .ok (.iload 4, 2) := by decide +kernel
theorem d_Mo_odds_50 : decode b_Mo_odds 50 = .ok (.aload_n 0, 1) := by decide +kernel
theorem d_Mo_odds_51 : decode b_Mo_odds 51 = .ok (.iload_n 1, 1) := by decide +kernel
theorem d_Mo_odds_52 : decode b_Mo_odds 52 = .ok (.iload 5, 2) := by decide +kernel
theorem d_Mo_odds_54 : decode b_Mo_odds 54 = .ok (.invokevirtual 230, 3) := by decide +kernel
theorem d_Mo_odds_57 : decode b_Mo_odds 57 = .ok (.ifCond .eq 7, 3) := by decide +kernel
theorem d_Mo_odds_60 : decode b_Mo_odds 60 = .ok (.iconst 1, 1) := by decide +kernel
theorem d_Mo_odds_61 : decode b_Mo_odds 61 = .ok (.goto 4, 3) := by decide +kernel
theorem d_Mo_odds_64 : decode b_Mo_odds 64 = .ok (.iconst 0, 1) := by decide +kernel
theorem d_Mo_odds_65 : decode b_Mo_odds 65 = .ok (.iadd, 1) := by decide +kernel
theorem d_Mo_odds_66 : decode b_Mo_odds 66 = .ok (.istore 4, 2) := by decide +kernel
theorem d_Mo_odds_68 : decode b_Mo_odds 68 = .ok (.iinc 5 1, 3) := by decide +kernel
theorem d_Mo_odds_71 : decode b_Mo_odds 71 = .ok (.goto (-30), 3) := by decide +kernel
theorem d_Mo_odds_74 : decode b_Mo_odds 74 = .ok (.bipush 16, 2) := by decide +kernel
theorem d_Mo_odds_76 : decode b_Mo_odds 76 = .ok (.istore 5, 2) := by decide +kernel
theorem d_Mo_odds_78 : decode b_Mo_odds 78 = .ok (.iload 4, 2) := by decide +kernel
theorem d_Mo_odds_80 : decode b_Mo_odds 80 = .ok (.istore 6, 2) := by decide +kernel
theorem d_Mo_odds_82 : decode b_Mo_odds 82 = .ok (.iload 6, 2) := by decide +kernel
theorem d_Mo_odds_84 : decode b_Mo_odds 84 = .ok (.ifCond .eq 21, 3) := by decide +kernel
theorem d_Mo_odds_87 : decode b_Mo_odds 87 = .ok (.iload 5, 2) := by decide +kernel
theorem d_Mo_odds_89 : decode b_Mo_odds 89 = .ok (.iload 6, 2) := by decide +kernel
theorem d_Mo_odds_91 : decode b_Mo_odds 91 = .ok (.irem, 1) := by decide +kernel
theorem d_Mo_odds_92 : decode b_Mo_odds 92 = .ok (.istore 7, 2) := by decide +kernel
theorem d_Mo_odds_94 : decode b_Mo_odds 94 = .ok (.iload 6, 2) := by decide +kernel
theorem d_Mo_odds_96 : decode b_Mo_odds 96 = .ok (.istore 5, 2) := by decide +kernel
theorem d_Mo_odds_98 : decode b_Mo_odds 98 = .ok (.iload 7, 2) := by decide +kernel
theorem d_Mo_odds_100 : decode b_Mo_odds 100 = .ok (.istore 6, 2) := by decide +kernel
theorem d_Mo_odds_102 : decode b_Mo_odds 102 = .ok (.goto (-20), 3) := by decide +kernel
theorem d_Mo_odds_105 : decode b_Mo_odds 105 = .ok (.lconst 1, 1) := by decide +kernel
theorem d_Mo_odds_106 : decode b_Mo_odds 106 = .ok (.lstore 7, 2) := by decide +kernel
theorem d_Mo_odds_108 : decode b_Mo_odds 108 = .ok (.iconst 0, 1) := by decide +kernel
theorem d_Mo_odds_109 : decode b_Mo_odds 109 = .ok (.istore 9, 2) := by decide +kernel
theorem d_Mo_odds_111 : decode b_Mo_odds 111 = .ok (.iload 9, 2) := by decide +kernel
theorem d_Mo_odds_113 : decode b_Mo_odds 113 = .ok (.iload_n 2, 1) := by decide +kernel
theorem d_Mo_odds_114 : decode b_Mo_odds 114 = .ok (.if_icmp .ge 29, 3) := by decide +kernel
theorem d_Mo_odds_117 : decode b_Mo_odds 117 = .ok (.lload 7, 2) := by decide +kernel
theorem d_Mo_odds_119 : decode b_Mo_odds 119 = .ok (.iload_n 3, 1) := by decide +kernel
theorem d_Mo_odds_120 : decode b_Mo_odds 120 = .ok (.ifCond .ne 8, 3) := by decide +kernel
theorem d_Mo_odds_123 : decode b_Mo_odds 123 = .ok (.iload 4, 2) := by decide +kernel
theorem d_Mo_odds_125 : decode b_Mo_odds 125 = .ok (.goto 5, 3) := by decide +kernel
theorem d_Mo_odds_128 : decode b_Mo_odds 128 = .ok (.bipush 16, 2) := by decide +kernel
theorem d_Mo_odds_130 : decode b_Mo_odds 130 = .ok (.iload 5, 2) := by decide +kernel
theorem d_Mo_odds_132 : decode b_Mo_odds 132 = .ok (.idiv, 1) := by decide +kernel
theorem d_Mo_odds_133 : decode b_Mo_odds 133 = .ok (.i2l, 1) := by decide +kernel
theorem d_Mo_odds_134 : decode b_Mo_odds 134 = .ok (.lmul, 1) := by decide +kernel
theorem d_Mo_odds_135 : decode b_Mo_odds 135 = .ok (.lstore 7, 2) := by decide +kernel
theorem d_Mo_odds_137 : decode b_Mo_odds 137 = .ok (.iinc 9 1, 3) := by decide +kernel
theorem d_Mo_odds_140 : decode b_Mo_odds 140 = .ok (.goto (-29), 3) := by decide +kernel
theorem d_Mo_odds_143 : decode b_Mo_odds 143 = .ok (.lload 7, 2) := by decide +kernel
theorem d_Mo_odds_145 : decode b_Mo_odds 145 = .ok (.lreturn, 1) := by decide +kernel
theorem d_Mo_seed_0 : decode b_Mo_seed 0 = .ok (.aload_n 0, 1) := by decide +kernel
theorem d_Mo_seed_1 : decode b_Mo_seed 1 = .ok (.iconst 2, 1) := by decide +kernel
theorem d_Mo_seed_2 : decode b_Mo_seed 2 = .ok (.iload_n 1, 1) := by decide +kernel
theorem d_Mo_seed_3 : decode b_Mo_seed 3 = .ok (.invokevirtual 78, 3) := by decide +kernel
theorem d_Mo_seed_6 : decode b_Mo_seed 6 = .ok (.ireturn, 1) := by decide +kernel
theorem d_Mo_feed_0 : decode b_Mo_feed 0 = .ok (.iload_n 2, 1) := by decide +kernel
theorem d_Mo_feed_1 : decode b_Mo_feed 1 = .ok (.iconst 1, 1) := by decide +kernel
theorem d_Mo_feed_2 : decode b_Mo_feed 2 = .ok (.iconst 4, 1) := by decide +kernel
theorem d_Mo_feed_3 : decode b_Mo_feed 3 = .ok (.invokestatic 70, 3) := by decide +kernel
theorem d_Mo_feed_6 : decode b_Mo_feed 6 = .ok (.ifCond .ne 10, 3) := by decide +kernel
theorem d_Mo_feed_9 : decode b_Mo_feed 9 = .ok (.aload_n 0, 1) := by decide +kernel
theorem d_Mo_feed_10 : decode b_Mo_feed 10 = .ok (.ldc 60, 2) := by decide +kernel
theorem d_Mo_feed_12 : decode b_Mo_feed 12 = .ok (.invokevirtual 66, 3) := by decide +kernel
theorem d_Mo_feed_15 : decode b_Mo_feed 15 = .ok (.ireturn, 1) := by decide +kernel
theorem d_Mo_feed_16 : decode b_Mo_feed 16 = .ok (.aload_n 0, 1) := by decide +kernel
theorem d_Mo_feed_17 : decode b_Mo_feed 17 = .ok (.getfield 233, 3) := by decide +kernel
theorem d_Mo_feed_20 : decode b_Mo_feed 20 = .ok (.iload_n 2, 1) := by decide +kernel
theorem d_Mo_feed_21 : decode b_Mo_feed 21 = .ok (.iadd, 1) := by decide +kernel
theorem d_Mo_feed_22 : decode b_Mo_feed 22 = .ok (.bipush 120, 2) := by decide +kernel
theorem d_Mo_feed_24 : decode b_Mo_feed 24 = .ok (.if_icmp .le 10, 3) := by decide +kernel
theorem d_Mo_feed_27 : decode b_Mo_feed 27 = .ok (.aload_n 0, 1) := by decide +kernel
theorem d_Mo_feed_28 : decode b_Mo_feed 28 = .ok (.ldc 97, 2) := by decide +kernel
theorem d_Mo_feed_30 : decode b_Mo_feed 30 = .ok (.invokevirtual 66, 3) := by decide +kernel
theorem d_Mo_feed_33 : decode b_Mo_feed 33 = .ok (.ireturn, 1) := by decide +kernel
theorem d_Mo_feed_34 : decode b_Mo_feed 34 = .ok (.iload_n 2, 1) := by decide +kernel
theorem d_Mo_feed_35 : decode b_Mo_feed 35 = .ok (.iconst 1, 1) := by decide +kernel
theorem d_Mo_feed_36 : decode b_Mo_feed 36 = .ok (.isub, 1) := by decide +kernel
theorem d_Mo_feed_37 : decode b_Mo_feed 37 = .ok (.istore_n 3, 1) := by decide +kernel
theorem d_Mo_feed_38 : decode b_Mo_feed 38 = .ok (.iload_n 3, 1) := by decide +kernel
theorem d_Mo_feed_39 : decode b_Mo_feed 39 = .ok (.ifCond .lt 38, 3) := by decide +kernel
theorem d_Mo_feed_42 : decode b_Mo_feed 42 = .ok (.aload_n 0, 1) := by decide +kernel
theorem d_Mo_feed_43 : decode b_Mo_feed 43 = .ok (.getfield 22, 3) := by decide +kernel
theorem d_Mo_feed_46 : decode b_Mo_feed 46 = .ok (.aload_n 0, 1) := by decide +kernel
theorem d_Mo_feed_47 : decode b_Mo_feed 47 = .ok (.getfield 233, 3) := by decide +kernel
theorem d_Mo_feed_50 : decode b_Mo_feed 50 = .ok (.iload_n 1, 1) := by decide +kernel
theorem d_Mo_feed_51 : decode b_Mo_feed 51 = .ok (.bipush 8, 2) := by decide +kernel
theorem d_Mo_feed_53 : decode b_Mo_feed 53 = .ok (.iload_n 3, 1) := by decide +kernel
theorem d_Mo_feed_54 : decode b_Mo_feed 54 = .ok (.imul, 1) := by decide +kernel
theorem d_Mo_feed_55 : decode b_Mo_feed 55 = .ok (.ishr, 1) := by decide +kernel
theorem d_Mo_feed_56 : decode b_Mo_feed 56 = .ok (.sipush 255, 3) := by decide +kernel
theorem d_Mo_feed_59 : decode b_Mo_feed 59 = .ok (.iand, 1) := by decide +kernel
theorem d_Mo_feed_60 : decode b_Mo_feed 60 = .ok (.iastore, 1) := by decide +kernel
theorem d_Mo_feed_61 : decode b_Mo_feed 61 = .ok (.aload_n 0, 1) := by decide +kernel
theorem d_Mo_feed_62 : decode b_Mo_feed 62 = .ok (.dup, 1) := by decide +kernel
theorem d_Mo_feed_63 : decode b_Mo_feed 63 = .ok (.getfield 233, 3) := by decide +kernel
theorem d_Mo_feed_66 : decode b_Mo_feed 66 = .ok (.iconst 1, 1) := by decide +kernel
theorem d_Mo_feed_67 : decode b_Mo_feed 67 = .ok (.iadd, 1) := by decide +kernel
theorem d_Mo_feed_68 : decode b_Mo_feed 68 = .ok (.putfield 233, 3) := by decide +kernel
theorem d_Mo_feed_71 : decode b_Mo_feed 71 = .ok (.iinc 3 (-1), 3) := by decide +kernel
theorem d_Mo_feed_74 : decode b_Mo_feed 74 = .ok (.goto (-36), 3) := by decide +kernel
theorem d_Mo_feed_77 : decode b_Mo_feed 77 = .ok (.aload_n 0, 1) := by decide +kernel
theorem d_Mo_feed_78 : decode b_Mo_feed 78 = .ok (.getfield 233, 3) := by decide +kernel
theorem d_Mo_feed_81 : decode b_Mo_feed 81 = .ok (.ireturn, 1) := by decide +kernel
theorem d_Mo_wipe_0 : decode b_Mo_wipe 0 = .ok (.aload_n 0, 1) := by decide +kernel
theorem d_Mo_wipe_1 : decode b_Mo_wipe 1 = .ok (.getfield 233, 3) := by decide +kernel
theorem d_Mo_wipe_4 : decode b_Mo_wipe 4 = .ok (.istore_n 1, 1) := by decide +kernel
theorem d_Mo_wipe_5 : decode b_Mo_wipe 5 = .ok (.aload_n 0, 1) := by decide +kernel
theorem d_Mo_wipe_6 : decode b_Mo_wipe 6 = .ok (.iconst 0, 1) := by decide +kernel
theorem d_Mo_wipe_7 : decode b_Mo_wipe 7 = .ok (.putfield 233, 3) := by decide +kernel
theorem d_Mo_wipe_10 : decode b_Mo_wipe 10 = .ok (.iload_n 1, 1) := by decide +kernel
theorem d_Mo_wipe_11 : decode b_Mo_wipe 11 = .ok (.ireturn, 1) := by decide +kernel
theorem d_Mo_byteAt_0 : decode b_Mo_byteAt 0 = .ok (.iload_n 1, 1) := by decide +kernel
theorem d_Mo_byteAt_1 : decode b_Mo_byteAt 1 = .ok (.aload_n 0, 1) := by decide +kernel
theorem d_Mo_byteAt_2 : decode b_Mo_byteAt 2 = .ok (.getfield 233, 3) := by decide +kernel
theorem d_Mo_byteAt_5 : decode b_Mo_byteAt 5 = .ok (.if_icmp .ge 12, 3) := by decide +kernel
theorem d_Mo_byteAt_8 : decode b_Mo_byteAt 8 = .ok (.aload_n 0, 1) := by decide +kernel
theorem d_Mo_byteAt_9 : decode b_Mo_byteAt 9 = .ok (.getfield 22, 3) := by decide +kernel
theorem d_Mo_byteAt_12 : decode b_Mo_byteAt 12 = .ok (.iload_n 1, 1) := by decide +kernel
theorem d_Mo_byteAt_13 : decode b_Mo_byteAt 13 = .ok (.iaload, 1) := by decide +kernel
theorem d_Mo_byteAt_14 : decode b_Mo_byteAt 14 = .ok (.goto 4, 3) := by decide +kernel
theorem d_Mo_byteAt_17 : decode b_Mo_byteAt 17 = .ok (.iconst (-1), 1) := by decide +kernel
theorem d_Mo_byteAt_18 : decode b_Mo_byteAt 18 = .ok (.ireturn, 1) := by decide +kernel
theorem d_Mo_token_0 : decode b_Mo_token 0 = .ok (.aload_n 0, 1) := by decide +kernel
theorem d_Mo_token_1 : decode b_Mo_token 1 = .ok (.aload_n 0, 1) := by decide +kernel
theorem d_Mo_token_2 : decode b_Mo_token 2 = .ok (.getfield 237, 3) := by decide +kernel
theorem d_Mo_token_5 : decode b_Mo_token 5 = .ok (.putfield 240, 3) := by decide +kernel
theorem d_Mo_token_8 : decode b_Mo_token 8 = .ok (.aload_n 0, 1) := by decide +kernel
theorem d_Mo_token_9 : decode b_Mo_token 9 = .ok (.aload_n 0, 1) := by decide +kernel
theorem d_Mo_token_10 : decode b_Mo_token 10 = .ok (.getfield 240, 3) := by decide +kernel
theorem d_Mo_token_13 : decode b_Mo_token 13 = .ok (.invokevirtual 243, 3) := by decide +kernel
theorem d_Mo_token_16 : decode b_Mo_token 16 = .ok (.bipush 32, 2) := by decide +kernel
theorem d_Mo_token_18 : decode b_Mo_token 18 = .ok (.if_icmp .ne 16, 3) := by decide +kernel
theorem d_Mo_token_21 : decode b_Mo_token 21 = .ok (.aload_n 0, 1) := by decide +kernel
theorem d_Mo_token_22 : decode b_Mo_token 22 = .ok (.dup, 1) := by decide +kernel
theorem d_Mo_token_23 : decode b_Mo_token 23 = .ok (.getfield 240, 3) := by decide +kernel
theorem d_Mo_token_26 : decode b_Mo_token 26 = .ok (.iconst 1, 1) := by decide +kernel
theorem d_Mo_token_27 : decode b_Mo_token 27 = .ok (.iadd, 1) := by decide +kernel
theorem d_Mo_token_28 : decode b_Mo_token 28 = .ok (.putfield 240, 3) := by decide +kernel
theorem d_Mo_token_31 : decode b_Mo_token 31 = .ok (.goto (-23), 3) := by decide +kernel
theorem d_Mo_token_34 : decode b_Mo_token 34 = .ok (.aload_n 0, 1) := by decide +kernel
theorem d_Mo_token_35 : decode b_Mo_token 35 = .ok (.aload_n 0, 1) := by decide +kernel
theorem d_Mo_token_36 : decode b_Mo_token 36 = .ok (.getfield 240, 3) := by decide +kernel
theorem d_Mo_token_39 : decode b_Mo_token 39 = .ok (.invokevirtual 243, 3) := by decide +kernel
theorem d_Mo_token_42 : decode b_Mo_token 42 = .ok (.istore_n 1, 1) := by decide +kernel
theorem d_Mo_token_43 : decode b_Mo_token 43 = .ok (.aload_n 0, 1) := by decide +kernel
theorem d_Mo_token_44 : decode b_Mo_token 44 = .ok (.aload_n 0, 1) := by decide +kernel
theorem d_Mo_token_45 : decode b_Mo_token 45 = .ok (.getfield 240, 3) := by decide +kernel
theorem d_Mo_token_48 : decode b_Mo_token 48 = .ok (.putfield 237, 3) := by decide +kernel
theorem d_Mo_token_51 : decode b_Mo_token 51 = .ok (.aload_n 0, 1) := by decide +kernel
theorem d_Mo_token_52 : decode b_Mo_token 52 = .ok (.iconst 0, 1) := by decide +kernel
theorem d_Mo_token_53 : decode b_Mo_token 53 = .ok (.putfield 246, 3) := by decide +kernel
theorem d_Mo_token_56 : decode b_Mo_token 56 = .ok (.iload_n 1, 1) := by decide +kernel
theorem d_Mo_token_57 : decode b_Mo_token 57 = .ok (.ifCond .ge 11, 3) := by decide +kernel
theorem d_Mo_token_60 : decode b_Mo_token 60 = .ok (.aload_n 0, 1) := by decide +kernel
theorem d_Mo_token_61 : decode b_Mo_token 61 = .ok (.iconst 0, 1) := by decide +kernel
theorem d_Mo_token_62 : decode b_Mo_token 62 = .ok (.putfield 249, 3) := by decide +kernel
theorem d_Mo_token_65 : decode b_Mo_token 65 = .ok (.goto 141, 3) := by decide +kernel
theorem d_Mo_token_68 : decode b_Mo_token 68 = .ok (.iload_n 1, 1) := by decide +kernel
theorem d_Mo_token_69 : decode b_Mo_token 69 = .ok (.bipush 97, 2) := by decide +kernel
theorem d_Mo_token_71 : decode b_Mo_token 71 = .ok (.bipush 122, 2) := by decide +kernel
theorem d_Mo_token_73 : decode b_Mo_token 73 = .ok (.invokestatic 70, 3) := by decide +kernel
theorem d_Mo_token_76 : decode b_Mo_token 76 = .ok (.ifCond .eq 39, 3) := by decide +kernel
theorem d_Mo_token_79 : decode b_Mo_token 79 = .ok (.aload_n 0, 1) := by decide +kernel
theorem d_Mo_token_80 : decode b_Mo_token 80 = .ok (.iconst 1, 1) := by decide +kernel
theorem d_Mo_token_81 : decode b_Mo_token 81 = .ok (.putfield 249, 3) := by decide +kernel
theorem d_Mo_token_84 : decode b_Mo_token 84 = .ok (.aload_n 0, 1) := by decide +kernel
theorem d_Mo_token_85 : decode b_Mo_token 85 = .ok (.aload_n 0, 1) := by decide +kernel
theorem d_Mo_token_86 : decode b_Mo_token 86 = .ok (.getfield 237, 3) := by decide +kernel
theorem d_Mo_token_89 : decode b_Mo_token 89 = .ok (.invokevirtual 243, 3) := by decide +kernel
theorem d_Mo_token_92 : decode b_Mo_token 92 = .ok (.bipush 97, 2) := by decide +kernel
theorem d_Mo_token_94 : decode b_Mo_token 94 = .ok (.bipush 122, 2) := by decide +kernel
theorem d_Mo_token_96 : decode b_Mo_token 96 = .ok (.invokestatic 70, 3) := by decide +kernel
theorem d_Mo_token_99 : decode b_Mo_token 99 = .ok (.ifCond .eq 107, 3) := by decide +kernel
theorem d_Mo_token_102 : decode b_Mo_token 102 = .ok (.aload_n 0, 1) := by decide +kernel
theorem d_Mo_token_103 : decode b_Mo_token 103 = .ok (.dup, 1) := by decide +kernel
theorem d_Mo_token_104 : decode b_Mo_token 104 = .ok (.getfield 237, 3) := by decide +kernel
theorem d_Mo_token_107 : decode b_Mo_token 107 = .ok (.iconst 1, 1) := by decide +kernel
theorem d_Mo_token_108 : decode b_Mo_token 108 = .ok (.iadd, 1) := by decide +kernel
theorem d_Mo_token_109 : decode b_Mo_token 109 = .ok (.putfield 237, 3) := by decide +kernel
theorem d_Mo_token_112 : decode b_Mo_token 112 = .ok (.goto (-28), 3) := by decide +kernel
theorem d_Mo_token_115 : decode b_Mo_token 115 = .ok (.iload_n 1, 1) := by decide +kernel
theorem d_Mo_token_116 : decode b_Mo_token 116 = .ok (.bipush 48, 2) := by decide +kernel
theorem d_Mo_token_118 : decode b_Mo_token 118 = .ok (.bipush 57, 2) := by decide +kernel
theorem d_Mo_token_120 : decode b_Mo_token 120 = .ok (.invokestatic 70, 3) := by decide +kernel
theorem d_Mo_token_123 : decode b_Mo_token 123 = .ok (.ifCond .eq 68, 3) := by decide +kernel
theorem d_Mo_token_126 : decode b_Mo_token 126 = .ok (.aload_n 0, 1) := by decide +kernel
theorem d_Mo_token_127 : decode b_Mo_token 127 = .ok (.iconst 2, 1) := by decide +kernel
theorem d_Mo_token_128 : decode b_Mo_token 128 = .ok (.putfield 249, 3) := by decide +kernel
theorem d_Mo_token_131 : decode b_Mo_token 131 = .ok (.aload_n 0, 1) := by decide +kernel
theorem d_Mo_token_132 : decode b_Mo_token 132 = .ok (.aload_n 0, 1) := by decide +kernel
theorem d_Mo_token_133 : decode b_Mo_token 133 = .ok (.getfield 237, 3) := by decide +kernel
theorem d_Mo_token_136 : decode b_Mo_token 136 = .ok (.invokevirtual 243, 3) := by decide +kernel
theorem d_Mo_token_139 : decode b_Mo_token 139 = .ok (.bipush 48, 2) := by decide +kernel
theorem d_Mo_token_141 : decode b_Mo_token 141 = .ok (.bipush 57, 2) := by decide +kernel
theorem d_Mo_token_143 : decode b_Mo_token 143 = .ok (.invokestatic 70, 3) := by decide +kernel
theorem d_Mo_token_146 : decode b_Mo_token 146 = .ok (.ifCond .eq 60, 3) := by decide +kernel
theorem d_Mo_token_149 : decode b_Mo_token 149 = .ok (.aload_n 0, 1) := by decide +kernel
theorem d_Mo_token_150 : decode b_Mo_token 150 = .ok (.sipush 10000, 3) := by decide +kernel
theorem d_Mo_token_153 : decode b_Mo_token 153 = .ok (.bipush 10, 2) := by decide +kernel
theorem d_Mo_token_155 : decode b_Mo_token 155 = .ok (.aload_n 0, 1) := by decide +kernel
theorem d_Mo_token_156 : decode b_Mo_token 156 = .ok (.getfield 246, 3) := by decide +kernel
theorem d_Mo_token_159 : decode b_Mo_token 159 = .ok (.imul, 1) := by decide +kernel
theorem d_Mo_token_160 : decode b_Mo_token 160 = .ok (.aload_n 0, 1) := by decide +kernel
theorem d_Mo_token_161 : decode b_Mo_token 161 = .ok (.aload_n 0, 1) := by decide +kernel
theorem d_Mo_token_162 : decode b_Mo_token 162 = .ok (.getfield 237, 3) := by decide +kernel
theorem d_Mo_token_165 : decode b_Mo_token 165 = .ok (.invokevirtual 243, 3) := by decide +kernel
theorem d_Mo_token_168 : decode b_Mo_token 168 = .ok (.iadd, 1) := by decide +kernel
theorem d_Mo_token_169 : decode b_Mo_token 169 = .ok (.bipush 48, 2) := by decide +kernel
theorem d_Mo_token_171 : decode b_Mo_token 171 = .ok (.isub, 1) := by decide +kernel
theorem d_Mo_token_172 : decode b_Mo_token 172 = .ok (.invokestatic 134, 3) := by decide +kernel
theorem d_Mo_token_175 : decode b_Mo_token 175 = .ok (.putfield 246, 3) := by decide +kernel
theorem d_Mo_token_178 : decode b_Mo_token 178 = .ok (.aload_n 0, 1) := by decide +kernel
theorem d_Mo_token_179 : decode b_Mo_token 179 = .ok (.dup, 1) := by decide +kernel
theorem d_Mo_token_180 : decode b_Mo_token 180 = .ok (.getfield 237, 3) := by decide +kernel
theorem d_Mo_token_183 : decode b_Mo_token 183 = .ok (.iconst 1, 1) := by decide +kernel
theorem d_Mo_token_184 : decode b_Mo_token 184 = .ok (.iadd, 1) := by decide +kernel
theorem d_Mo_token_185 : decode b_Mo_token 185 = .ok (.putfield 237, 3) := by decide +kernel
theorem d_Mo_token_188 : decode b_Mo_token 188 = .ok (.goto (-57), 3) := by decide +kernel
theorem d_Mo_token_191 : decode b_Mo_token 191 = .ok (.aload_n 0, 1) := by decide +kernel
theorem d_Mo_token_192 : decode b_Mo_token 192 = .ok (.iconst 3, 1) := by decide +kernel
theorem d_Mo_token_193 : decode b_Mo_token 193 = .ok (.putfield 249, 3) := by decide +kernel
theorem d_Mo_token_196 : decode b_Mo_token 196 = .ok (.aload_n 0, 1) := by decide +kernel
theorem d_Mo_token_197 : decode b_Mo_token 197 = .ok (.dup, 1) := by decide +kernel
theorem d_Mo_token_198 : decode b_Mo_token 198 = .ok (.getfield 237, 3) := by decide +kernel
theorem d_Mo_token_201 : decode b_Mo_token 201 = .ok (.iconst 1, 1) := by decide +kernel
theorem d_Mo_token_202 : decode b_Mo_token 202 = .ok (.iadd, 1) := by decide +kernel
theorem d_Mo_token_203 : decode b_Mo_token 203 = .ok (.putfield 237, 3) := by decide +kernel
theorem d_Mo_token_206 : decode b_Mo_token 206 = .ok (.return_, 1) := by decide +kernel
theorem d_Mo_isWord_0 : decode b_Mo_isWord 0 = .ok (.aload_n 0, 1) := by decide +kernel
theorem d_Mo_isWord_1 : decode b_Mo_isWord 1 = .ok (.getfield 249, 3) := by decide +kernel
theorem d_Mo_isWord_4 : decode b_Mo_isWord 4 = .ok (.iconst 1, 1) := by decide +kernel
theorem d_Mo_isWord_5 : decode b_Mo_isWord 5 = .ok (.if_icmp .ne 23, 3) := by decide +kernel
theorem d_Mo_isWord_8 : decode b_Mo_isWord 8 = .ok (.aload_n 0, 1) := by decide +kernel
theorem d_Mo_isWord_9 : decode b_Mo_isWord 9 = .ok (.getfield 237, 3) := by decide +kernel
theorem d_Mo_isWord_12 : decode b_Mo_isWord 12 = .ok (.aload_n 0, 1) := by decide +kernel
theorem d_Mo_isWord_13 : decode b_Mo_isWord 13 = .ok (.getfield 240, 3) := by decide +kernel
theorem d_Mo_isWord_16 : decode b_Mo_isWord 16 = .ok (.isub, 1) := by decide +kernel
theorem d_Mo_isWord_17 : decode b_Mo_isWord 17 = .ok (.aload_n 1, 1) := by decide +kernel
theorem d_Mo_isWord_18 : decode b_Mo_isWord 18 = .ok (.invokevirtual 252, 3) := by decide +kernel
theorem d_Mo_isWord_21 : decode b_Mo_isWord 21 = .ok (.if_icmp .ne 7, 3) := by decide +kernel
theorem d_Mo_isWord_24 : decode b_Mo_isWord 24 = .ok (.iconst 1, 1) := by decide +kernel
theorem d_Mo_isWord_25 : decode b_Mo_isWord 25 = .ok (.goto 4, 3) := by decide +kernel
theorem d_Mo_isWord_28 : decode b_Mo_isWord 28 = .ok (.iconst 0, 1) := by decide +kernel
theorem d_Mo_isWord_29 : decode b_Mo_isWord 29 = .ok (.istore_n 2, 1) := by decide +kernel
theorem d_Mo_isWord_30 : decode b_Mo_isWord 30 = .ok (.iconst 0, 1) := by decide +kernel
theorem d_Mo_isWord_31 : decode b_Mo_isWord 31 = .ok (.istore_n 3, 1) := by decide +kernel
theorem d_Mo_isWord_32 : decode b_Mo_isWord 32 = .ok (.iload_n 3, 1) := by decide +kernel
theorem d_Mo_isWord_33 : decode b_Mo_isWord 33 = .ok (.aload_n 1, 1) := by decide +kernel
theorem d_Mo_isWord_34 : decode b_Mo_isWord 34 = .ok (.invokevirtual 252, 3) := by decide +kernel
theorem d_Mo_isWord_37 : decode b_Mo_isWord 37 = .ok (.if_icmp .ge 38, 3) := by decide +kernel
theorem d_Mo_isWord_40 : decode b_Mo_isWord 40 = .ok (.iload_n 2, 1) := by decide +kernel
theorem d_Mo_isWord_41 : decode b_Mo_isWord 41 = .ok (.ifCond .eq 34, 3) := by decide +kernel
theorem d_Mo_isWord_44 : decode b_Mo_isWord 44 = .ok (.aload_n 0, 1) := by decide +kernel
theorem d_Mo_isWord_45 : decode b_Mo_isWord 45 = .ok (.getfield 22, 3) := by decide +kernel
theorem d_Mo_isWord_48 : decode b_Mo_isWord 48 = .ok (.aload_n 0, 1) := by decide +kernel
theorem d_Mo_isWord_49 : decode b_Mo_isWord 49 = .ok (.getfield 240, 3) := by decide +kernel
theorem d_Mo_isWord_52 : decode b_Mo_isWord 52 = .ok (.iload_n 3, 1) := by decide +kernel
theorem d_Mo_isWord_53 : decode b_Mo_isWord 53 = .ok (.iadd, 1) := by decide +kernel
theorem d_Mo_isWord_54 : decode b_Mo_isWord 54 = .ok (.iaload, 1) := by decide +kernel
theorem d_Mo_isWord_55 : decode b_Mo_isWord 55 = .ok (.aload_n 1, 1) := by decide +kernel
theorem d_Mo_isWord_56 : decode b_Mo_isWord 56 = .ok (.iload_n 3, 1) := by decide +kernel
theorem d_Mo_isWord_57 : decode b_Mo_isWord 57 = .ok (.invokevirtual 255, 3) := by decide +kernel
theorem d_Mo_isWord_60 : decode b_Mo_isWord 60 = .ok (.if_icmp .ne 7, 3) := by decide +kernel
theorem d_Mo_isWord_63 : decode b_Mo_isWord 63 = .ok (.iconst 1, 1) := by decide +kernel
theorem d_Mo_isWord_64 : decode b_Mo_isWord 64 = .ok (.goto 4, 3) := by decide +kernel
theorem d_Mo_isWord_67 : decode b_Mo_isWord 67 = .ok (.iconst 0, 1) := by decide +kernel
theorem d_Mo_isWord_68 : decode b_Mo_isWord 68 = .ok (.istore_n 2, 1) := by decide +kernel
theorem d_Mo_isWord_69 : decode b_Mo_isWord 69 = .ok (.iinc 3 1, 3) := by decide +kernel
theorem d_Mo_isWord_72 : decode b_Mo_isWord 72 = .ok (.goto (-40), 3) := by decide +kernel
theorem d_Mo_isWord_75 : decode b_Mo_isWord 75 = .ok (.iload_n 2, 1) := by decide +kernel
theorem d_Mo_isWord_76 : decode b_Mo_isWord 76 = .ok (.ireturn, 1) := by decide +kernel
theorem d_Mo_must_0 : decode b_Mo_must 0 = .ok (.aload_n 0, 1) := by decide +kernel
theorem d_Mo_must_1 : decode b_Mo_must 1 = .ok (.aload_n 0, 1) := by decide +kernel
theorem d_Mo_must_2 : decode b_Mo_must 2 = .ok (.getfield 259, 3) := by decide +kernel
theorem d_Mo_must_5 : decode b_Mo_must 5 = .ok (.ifCond .ne 7, 3) := by decide +kernel
theorem d_Mo_must_8 : decode b_Mo_must 8 = .ok (.iload_n 1, 1) := by decide +kernel
theorem d_Mo_must_9 : decode b_Mo_must 9 = .ok (.ifCond .ne 7, 3) := by decide +kernel
theorem d_Mo_must_12 : decode b_Mo_must 12 = .ok (.iconst 1, 1) := by decide +kernel
theorem d_Mo_must_13 : decode b_Mo_must 13 = .ok (.goto 4, 3) := by decide +kernel
theorem d_Mo_must_16 : decode b_Mo_must 16 = .ok (.iconst 0, 1) := by decide +kernel
theorem d_Mo_must_17 : decode b_Mo_must 17 = .ok (.putfield 259, 3) := by decide +kernel
theorem d_Mo_must_20 : decode b_Mo_must 20 = .ok (.aload_n 0, 1) := by decide +kernel
theorem d_Mo_must_21 : decode b_Mo_must 21 = .ok (.getfield 259, 3) := by decide +kernel
theorem d_Mo_must_24 : decode b_Mo_must 24 = .ok (.ifCond .ne 7, 3) := by decide +kernel
theorem d_Mo_must_27 : decode b_Mo_must 27 = .ok (.aload_n 0, 1) := by decide +kernel
theorem d_Mo_must_28 : decode b_Mo_must 28 = .ok (.invokevirtual 263, 3) := by decide +kernel
theorem d_Mo_must_31 : decode b_Mo_must 31 = .ok (.return_, 1) := by decide +kernel
theorem d_Mo_number_0 : decode b_Mo_number 0 = .ok (.aload_n 0, 1) := by decide +kernel
theorem d_Mo_number_1 : decode b_Mo_number 1 = .ok (.getfield 246, 3) := by decide +kernel
theorem d_Mo_number_4 : decode b_Mo_number 4 = .ok (.istore_n 3, 1) := by decide +kernel
theorem d_Mo_number_5 : decode b_Mo_number 5 = .ok (.aload_n 0, 1) := by decide +kernel
theorem d_Mo_number_6 : decode b_Mo_number 6 = .ok (.aload_n 0, 1) := by decide +kernel
theorem d_Mo_number_7 : decode b_Mo_number 7 = .ok (.getfield 249, 3) := by decide +kernel
theorem d_Mo_number_10 : decode b_Mo_number 10 = .ok (.iconst 2, 1) := by decide +kernel
theorem d_Mo_number_11 : decode b_Mo_number 11 = .ok (.if_icmp .ne 16, 3) := by decide +kernel
theorem d_Mo_number_14 : decode b_Mo_number 14 = .ok (.iload_n 3, 1) := by decide +kernel
theorem d_Mo_number_15 : decode b_Mo_number 15 = .ok (.iload_n 1, 1) := by decide +kernel
theorem d_Mo_number_16 : decode b_Mo_number 16 = .ok (.iload_n 2, 1) := by decide +kernel
theorem d_Mo_number_17 : decode b_Mo_number 17 = .ok (.invokestatic 70, 3) := by decide +kernel
theorem d_Mo_number_20 : decode b_Mo_number 20 = .ok (.ifCond .eq 7, 3) := by decide +kernel
theorem d_Mo_number_23 : decode b_Mo_number 23 = .ok (.iconst 1, 1) := by decide +kernel
theorem d_Mo_number_24 : decode b_Mo_number 24 = .ok (.goto 4, 3) := by decide +kernel
theorem d_Mo_number_27 : decode b_Mo_number 27 = .ok (.iconst 0, 1) := by decide +kernel
theorem d_Mo_number_28 : decode b_Mo_number 28 = .ok (.invokevirtual 266, 3) := by decide +kernel
theorem d_Mo_number_31 : decode b_Mo_number 31 = .ok (.iload_n 3, 1) := by decide +kernel
theorem d_Mo_number_32 : decode b_Mo_number 32 = .ok (.ireturn, 1) := by decide +kernel
theorem d_Mo_addItem_0 : decode b_Mo_addItem 0 = .ok (.bipush 6, 2) := by decide +kernel
theorem d_Mo_addItem_2 : decode b_Mo_addItem 2 = .ok (.aload_n 0, 1) := by decide +kernel
theorem d_Mo_addItem_3 : decode b_Mo_addItem 3 = .ok (.getfield 270, 3) := by decide +kernel
theorem d_Mo_addItem_6 : decode b_Mo_addItem 6 = .ok (.imul, 1) := by decide +kernel
theorem d_Mo_addItem_7 : decode b_Mo_addItem 7 = .ok (.istore 7, 2) := by decide +kernel
theorem d_Mo_addItem_9 : decode b_Mo_addItem 9 = .ok (.aload_n 0, 1) := by decide +kernel
theorem d_Mo_addItem_10 : decode b_Mo_addItem 10 = .ok (.getfield 45, 3) := by decide +kernel
theorem d_Mo_addItem_13 : decode b_Mo_addItem 13 = .ok (.iload 7, 2) := by decide +kernel
theorem d_Mo_addItem_15 : decode b_Mo_addItem 15 = .ok (.iload_n 1, 1) := by decide +kernel
theorem d_Mo_addItem_16 : decode b_Mo_addItem 16 = .ok (.iastore, 1) := by decide +kernel
theorem d_Mo_addItem_17 : decode b_Mo_addItem 17 = .ok (.aload_n 0, 1) := by decide +kernel
theorem d_Mo_addItem_18 : decode b_Mo_addItem 18 = .ok (.getfield 45, 3) := by decide +kernel
theorem d_Mo_addItem_21 : decode b_Mo_addItem 21 = .ok (.iload 7, 2) := by decide +kernel
theorem d_Mo_addItem_23 : decode b_Mo_addItem 23 = .ok (.iconst 1, 1) := by decide +kernel
theorem d_Mo_addItem_24 : decode b_Mo_addItem 24 = .ok (.iadd, 1) := by decide +kernel
theorem d_Mo_addItem_25 : decode b_Mo_addItem 25 = .ok (.iload_n 2, 1) := by decide +kernel
theorem d_Mo_addItem_26 : decode b_Mo_addItem 26 = .ok (.iastore, 1) := by decide +kernel
theorem d_Mo_addItem_27 : decode b_Mo_addItem 27 = .ok (.aload_n 0, 1) := by decide +kernel
theorem d_Mo_addItem_28 : decode b_Mo_addItem 28 = .ok (.getfield 45, 3) := by decide +kernel
theorem d_Mo_addItem_31 : decode b_Mo_addItem 31 = .ok (.iload 7, 2) := by decide +kernel
theorem d_Mo_addItem_33 : decode b_Mo_addItem 33 = .ok (.iconst 2, 1) := by decide +kernel
theorem d_Mo_addItem_34 : decode b_Mo_addItem 34 = .ok (.iadd, 1) := by decide +kernel
theorem d_Mo_addItem_35 : decode b_Mo_addItem 35 = .ok (.iload_n 3, 1) := by decide +kernel
theorem d_Mo_addItem_36 : decode b_Mo_addItem 36 = .ok (.iastore, 1) := by decide +kernel
theorem d_Mo_addItem_37 : decode b_Mo_addItem 37 = .ok (.aload_n 0, 1) := by decide +kernel
theorem d_Mo_addItem_38 : decode b_Mo_addItem 38 = .ok (.getfield 45, 3) := by decide +kernel
theorem d_Mo_addItem_41 : decode b_Mo_addItem 41 = .ok (.iload 7, 2) := by decide +kernel
theorem d_Mo_addItem_43 : decode b_Mo_addItem 43 = .ok (.iconst 3, 1) := by decide +kernel
theorem d_Mo_addItem_44 : decode b_Mo_addItem 44 = .ok (.iadd, 1) := by decide +kernel
theorem d_Mo_addItem_45 : decode b_Mo_addItem 45 = .ok (.iload 4, 2) := by decide +kernel
theorem d_Mo_addItem_47 : decode b_Mo_addItem 47 = .ok (.iastore, 1) := by decide +kernel
theorem d_Mo_addItem_48 : decode b_Mo_addItem 48 = .ok (.aload_n 0, 1) := by decide +kernel
theorem d_Mo_addItem_49 : decode b_Mo_addItem 49 = .ok (.getfield 45, 3) := by decide +kernel
theorem d_Mo_addItem_52 : decode b_Mo_addItem 52 = .ok (.iload 7, 2) := by decide +kernel
theorem d_Mo_addItem_54 : decode b_Mo_addItem 54 = .ok (.iconst 4, 1) := by decide +kernel
theorem d_Mo_addItem_55 : decode b_Mo_addItem 55 = .ok (.iadd, 1) := by decide +kernel
theorem d_Mo_addItem_56 : decode b_Mo_addItem 56 = .ok (.iload 5, 2) := by decide +kernel
theorem d_Mo_addItem_58 : decode b_Mo_addItem 58 = .ok (.iastore, 1) := by decide +kernel
theorem d_Mo_addItem_59 : decode b_Mo_addItem 59 = .ok (.aload_n 0, 1) := by decide +kernel
theorem d_Mo_addItem_60 : decode b_Mo_addItem 60 = .ok (.getfield 45, 3) := by decide +kernel
theorem d_Mo_addItem_63 : decode b_Mo_addItem 63 = .ok (.iload 7, 2) := by decide +kernel
theorem d_Mo_addItem_65 : decode b_Mo_addItem 65 = .ok (.iconst 5, 1) := by decide +kernel
theorem d_Mo_addItem_66 : decode b_Mo_addItem 66 = .ok (.iadd, 1) := by decide +kernel
theorem d_Mo_addItem_67 : decode b_Mo_addItem 67 = .ok (.iload 6, 2) := by decide +kernel
theorem d_Mo_addItem_69 : decode b_Mo_addItem 69 = .ok (.iastore, 1) := by decide +kernel
theorem d_Mo_addItem_70 : decode b_Mo_addItem 70 = .ok (.aload_n 0, 1) := by decide +kernel
theorem d_Mo_addItem_71 : decode b_Mo_addItem 71 = .ok (.dup, 1) := by decide +kernel
theorem d_Mo_addItem_72 : decode b_Mo_addItem 72 = .ok (.getfield 270, 3) := by decide +kernel
theorem d_Mo_addItem_75 : decode b_Mo_addItem 75 = .ok (.iconst 1, 1) := by decide +kernel
theorem d_Mo_addItem_76 : decode b_Mo_addItem 76 = .ok (.iadd, 1) := by decide +kernel
theorem d_Mo_addItem_77 : decode b_Mo_addItem 77 = .ok (.putfield 270, 3) := by decide +kernel
theorem d_Mo_addItem_80 : decode b_Mo_addItem 80 = .ok (.return_, 1) := by decide +kernel
theorem d_Mo_takesWord_0 : decode b_Mo_takesWord 0 = .ok (.aload_n 0, 1) := by decide +kernel
theorem d_Mo_takesWord_1 : decode b_Mo_takesWord 1 = .ok (.getfield 259, 3) := by decide +kernel
theorem d_Mo_takesWord_4 : decode b_Mo_takesWord 4 = .ok (.ifCond .ne 15, 3) := by decide +kernel
theorem d_Mo_takesWord_7 : decode b_Mo_takesWord 7 = .ok (.aload_n 0, 1) := by decide +kernel
theorem d_Mo_takesWord_8 : decode b_Mo_takesWord 8 = .ok (.aload_n 1, 1) := by decide +kernel
theorem d_Mo_takesWord_9 : decode b_Mo_takesWord 9 = .ok (.invokevirtual 273, 3) := by decide +kernel
theorem d_Mo_takesWord_12 : decode b_Mo_takesWord 12 = .ok (.ifCond .eq 7, 3) := by decide +kernel
theorem d_Mo_takesWord_15 : decode b_Mo_takesWord 15 = .ok (.iconst 1, 1) := by decide +kernel
theorem d_Mo_takesWord_16 : decode b_Mo_takesWord 16 = .ok (.goto 4, 3) := by decide +kernel
theorem d_Mo_takesWord_19 : decode b_Mo_takesWord 19 = .ok (.iconst 0, 1) := by decide +kernel
theorem d_Mo_takesWord_20 : decode b_Mo_takesWord 20 = .ok (.istore_n 2, 1) := by decide +kernel
theorem d_Mo_takesWord_21 : decode b_Mo_takesWord 21 = .ok (.iload_n 2, 1) := by decide +kernel
theorem d_Mo_takesWord_22 : decode b_Mo_takesWord 22 = .ok (.ifCond .eq 8, 3) := by decide +kernel
theorem d_Mo_takesWord_25 : decode b_Mo_takesWord 25 = .ok (.aload_n 0, 1) := by decide +kernel
theorem d_Mo_takesWord_26 : decode b_Mo_takesWord 26 = .ok (.iconst 1, 1) := by decide +kernel
theorem d_Mo_takesWord_27 : decode b_Mo_takesWord 27 = .ok (.invokevirtual 266, 3) := by decide +kernel
theorem d_Mo_takesWord_30 : decode b_Mo_takesWord 30 = .ok (.iload_n 2, 1) := by decide +kernel
theorem d_Mo_takesWord_31 : decode b_Mo_takesWord 31 = .ok (.ireturn, 1) := by decide +kernel
theorem d_Mo_readPerson_0 : decode b_Mo_readPerson 0 = .ok (.aload_n 0, 1) := by decide +kernel
theorem d_Mo_readPerson_1 : decode b_Mo_readPerson 1 = .ok (.aload_n 0, 1) := by decide +kernel
theorem d_Mo_readPerson_2 : decode b_Mo_readPerson 2 = .ok (.getfield 277, 3) := by decide +kernel
theorem d_Mo_readPerson_5 : decode b_Mo_readPerson 5 = .ok (.bipush 8, 2) := by decide +kernel
theorem d_Mo_readPerson_7 : decode b_Mo_readPerson 7 = .ok (.if_icmp .ge 7, 3) := by decide +kernel
theorem d_Mo_readPerson_10 : decode b_Mo_readPerson 10 = .ok (.iconst 1, 1) := by decide +kernel
theorem d_Mo_readPerson_11 : decode b_Mo_readPerson 11 = .ok (.goto 4, 3) := by decide +kernel
theorem d_Mo_readPerson_14 : decode b_Mo_readPerson 14 = .ok (.iconst 0, 1) := by decide +kernel
theorem d_Mo_readPerson_15 : decode b_Mo_readPerson 15 = .ok (.invokevirtual 266, 3) := by decide +kernel
theorem d_Mo_readPerson_18 : decode b_Mo_readPerson 18 = .ok (.aload_n 0, 1) := by decide +kernel
theorem d_Mo_readPerson_19 : decode b_Mo_readPerson 19 = .ok (.iconst 0, 1) := by decide +kernel
theorem d_Mo_readPerson_20 : decode b_Mo_readPerson 20 = .ok (.iconst 1, 1) := by decide +kernel
theorem d_Mo_readPerson_21 : decode b_Mo_readPerson 21 = .ok (.invokevirtual 280, 3) := by decide +kernel
theorem d_Mo_readPerson_24 : decode b_Mo_readPerson 24 = .ok (.istore_n 2, 1) := by decide +kernel
theorem d_Mo_readPerson_25 : decode b_Mo_readPerson 25 = .ok (.aload_n 0, 1) := by decide +kernel
theorem d_Mo_readPerson_26 : decode b_Mo_readPerson 26 = .ok (.ldc_w 283, 3) := by decide +kernel
theorem d_Mo_readPerson_29 : decode b_Mo_readPerson 29 = .ok (.invokevirtual 285, 3) := by decide +kernel
theorem d_Mo_readPerson_32 : decode b_Mo_readPerson 32 = .ok (.ifCond .eq 13, 3) := by decide +kernel
theorem d_Mo_readPerson_35 : decode b_Mo_readPerson 35 = .ok (.aload_n 0, 1) := by decide +kernel
theorem d_Mo_readPerson_36 : decode b_Mo_readPerson 36 = .ok (.iconst 0, 1) := by decide +kernel
theorem d_Mo_readPerson_37 : decode b_Mo_readPerson 37 = .ok (.bipush 15, 2) := by decide +kernel
theorem d_Mo_readPerson_39 : decode b_Mo_readPerson 39 = .ok (.invokevirtual 280, 3) := by decide +kernel
theorem d_Mo_readPerson_42 : decode b_Mo_readPerson 42 = .ok (.goto 7, 3) := by decide +kernel
theorem d_Mo_readPerson_45 : decode b_Mo_readPerson 45 = .ok (.iload_n 2, 1) := by decide +kernel
theorem d_Mo_readPerson_46 : decode b_Mo_readPerson 46 = .ok (.invokestatic 91, 3) := by decide +kernel
theorem d_Mo_readPerson_49 : decode b_Mo_readPerson 49 = .ok (.istore_n 3, 1) := by decide +kernel
theorem d_Mo_readPerson_50 : decode b_Mo_readPerson 50 = .ok (.aload_n 0, 1) := by decide +kernel
theorem d_Mo_readPerson_51 : decode b_Mo_readPerson 51 = .ok (.ldc_w 288, 3) := by decide +kernel
theorem d_Mo_readPerson_54 : decode b_Mo_readPerson 54 = .ok (.invokevirtual 285, 3) := by decide +kernel
theorem d_Mo_readPerson_57 : decode b_Mo_readPerson 57 = .ok (.ifCond .eq 13, 3) := by decide +kernel
theorem d_Mo_readPerson_60 : decode b_Mo_readPerson 60 = .ok (.aload_n 0, 1) := by decide +kernel
theorem d_Mo_readPerson_61 : decode b_Mo_readPerson 61 = .ok (.iconst 0, 1) := by decide +kernel
theorem d_Mo_readPerson_62 : decode b_Mo_readPerson 62 = .ok (.bipush 99, 2) := by decide +kernel
theorem d_Mo_readPerson_64 : decode b_Mo_readPerson 64 = .ok (.invokevirtual 280, 3) := by decide +kernel
theorem d_Mo_readPerson_67 : decode b_Mo_readPerson 67 = .ok (.goto 5, 3) := by decide +kernel
theorem d_Mo_readPerson_70 : decode b_Mo_readPerson 70 = .ok (.bipush 30, 2) := by decide +kernel
theorem d_Mo_readPerson_72 : decode b_Mo_readPerson 72 = .ok (.istore 4, 2) := by decide +kernel
theorem d_Mo_readPerson_74 : decode b_Mo_readPerson 74 = .ok (.aload_n 0, 1) := by decide +kernel
theorem d_Mo_readPerson_75 : decode b_Mo_readPerson 75 = .ok (.ldc_w 290, 3) := by decide +kernel
theorem d_Mo_readPerson_78 : decode b_Mo_readPerson 78 = .ok (.invokevirtual 285, 3) := by decide +kernel
theorem d_Mo_readPerson_81 : decode b_Mo_readPerson 81 = .ok (.ifCond .eq 13, 3) := by decide +kernel
theorem d_Mo_readPerson_84 : decode b_Mo_readPerson 84 = .ok (.aload_n 0, 1) := by decide +kernel
theorem d_Mo_readPerson_85 : decode b_Mo_readPerson 85 = .ok (.iconst 0, 1) := by decide +kernel
theorem d_Mo_readPerson_86 : decode b_Mo_readPerson 86 = .ok (.bipush 9, 2) := by decide +kernel
theorem d_Mo_readPerson_88 : decode b_Mo_readPerson 88 = .ok (.invokevirtual 280, 3) := by decide +kernel
theorem d_Mo_readPerson_91 : decode b_Mo_readPerson 91 = .ok (.goto 4, 3) := by decide +kernel
theorem d_Mo_readPerson_94 : decode b_Mo_readPerson 94 = .ok (.iconst 0, 1) := by decide +kernel
theorem d_Mo_readPerson_95 : decode b_Mo_readPerson 95 = .ok (.istore 5, 2) := by decide +kernel
theorem d_Mo_readPerson_97 : decode b_Mo_readPerson 97 = .ok (.aload_n 0, 1) := by decide +kernel
theorem d_Mo_readPerson_98 : decode b_Mo_readPerson 98 = .ok (.iload_n 1, 1) := by decide +kernel
theorem d_Mo_readPerson_99 : decode b_Mo_readPerson 99 = .ok (.iload_n 2, 1) := by decide +kernel
theorem d_Mo_readPerson_100 : decode b_Mo_readPerson 100 = .ok (.iload_n 3, 1) := by decide +kernel
theorem d_Mo_readPerson_101 : decode b_Mo_readPerson 101 = .ok (.iload 4, 2) := by decide +kernel
theorem d_Mo_readPerson_103 : decode b_Mo_readPerson 103 = .ok (.iload 5, 2) := by decide +kernel
theorem d_Mo_readPerson_105 : decode b_Mo_readPerson 105 = .ok (.aload_n 0, 1) := by decide +kernel
theorem d_Mo_readPerson_106 : decode b_Mo_readPerson 106 = .ok (.ldc_w 292, 3) := by decide +kernel
theorem d_Mo_readPerson_109 : decode b_Mo_readPerson 109 = .ok (.invokevirtual 285, 3) := by decide +kernel
theorem d_Mo_readPerson_112 : decode b_Mo_readPerson 112 = .ok (.ifCond .eq 14, 3) := by decide +kernel
theorem d_Mo_readPerson_115 : decode b_Mo_readPerson 115 = .ok (.aload_n 0, 1) := by decide +kernel
theorem d_Mo_readPerson_116 : decode b_Mo_readPerson 116 = .ok (.iconst 0, 1) := by decide +kernel
theorem d_Mo_readPerson_117 : decode b_Mo_readPerson 117 = .ok (.sipush 9999, 3) := by decide +kernel
theorem d_Mo_readPerson_120 : decode b_Mo_readPerson 120 = .ok (.invokevirtual 280, 3) := by decide +kernel
theorem d_Mo_readPerson_123 : decode b_Mo_readPerson 123 = .ok (.goto 4, 3) := by decide +kernel
theorem d_Mo_readPerson_126 : decode b_Mo_readPerson 126 = .ok (.iconst 0, 1) := by decide +kernel
theorem d_Mo_readPerson_127 : decode b_Mo_readPerson 127 = .ok (.invokevirtual 294, 3) := by decide +kernel
theorem d_Mo_readPerson_130 : decode b_Mo_readPerson 130 = .ok (.aload_n 0, 1) := by decide +kernel
theorem d_Mo_readPerson_131 : decode b_Mo_readPerson 131 = .ok (.dup, 1) := by decide +kernel
theorem d_Mo_readPerson_132 : decode b_Mo_readPerson 132 = .ok (.getfield 277, 3) := by decide +kernel
theorem d_Mo_readPerson_135 : decode b_Mo_readPerson 135 = .ok (.iconst 1, 1) := by decide +kernel
theorem d_Mo_readPerson_136 : decode b_Mo_readPerson 136 = .ok (.iadd, 1) := by decide +kernel
theorem d_Mo_readPerson_137 : decode b_Mo_readPerson 137 = .ok (.putfield 277, 3) := by decide +kernel
theorem d_Mo_readPerson_140 : decode b_Mo_readPerson 140 = .ok (.return_, 1) := by decide +kernel
theorem d_Mo_readItem_0 : decode b_Mo_readItem 0 = .ok (.iconst (-1), 1) := by decide +kernel
theorem d_Mo_readItem_1 : decode b_Mo_readItem 1 = .ok (.istore_n 1, 1) := by decide +kernel
theorem d_Mo_readItem_2 : decode b_Mo_readItem 2 = .ok (.iconst 0, 1) := by decide +kernel
theorem d_Mo_readItem_3 : decode b_Mo_readItem 3 = .ok (.istore_n 2, 1) := by decide +kernel
theorem d_Mo_readItem_4 : decode b_Mo_readItem 4 = .ok (.iload_n 2, 1) := by decide +kernel
theorem d_Mo_readItem_5 : decode b_Mo_readItem 5 = .ok (.aload_n 0, 1) := by decide +kernel
theorem d_Mo_readItem_6 : decode b_Mo_readItem 6 = .ok (.getfield 41, 3) := by decide +kernel
theorem d_Mo_readItem_9 : decode b_Mo_readItem 9 = .ok (.arraylength, 1) := by decide +kernel
theorem d_Mo_readItem_10 : decode b_Mo_readItem 10 = .ok (.if_icmp .ge 28, 3) := by decide +kernel
theorem d_Mo_readItem_13 : decode b_Mo_readItem 13 = .ok (.aload_n 0, 1) := by decide +kernel
theorem d_Mo_readItem_14 : decode b_Mo_readItem 14 = .ok (.aload_n 0, 1) := by decide +kernel
theorem d_Mo_readItem_15 : decode b_Mo_readItem 15 = .ok (.getfield 41, 3) := by decide +kernel
theorem d_Mo_readItem_18 : decode b_Mo_readItem 18 = .ok (.iload_n 2, 1) := by decide +kernel
theorem d_Mo_readItem_19 : decode b_Mo_readItem 19 = .ok (.aaload, 1) := by decide +kernel
theorem d_Mo_readItem_20 : decode b_Mo_readItem 20 = .ok (.invokevirtual 273, 3) := by decide +kernel
theorem d_Mo_readItem_23 : decode b_Mo_readItem 23 = .ok (.ifCond .eq 7, 3) := by decide +kernel
theorem d_Mo_readItem_26 : decode b_Mo_readItem 26 = .ok (.iload_n 2, 1) := by decide +kernel
theorem d_Mo_readItem_27 : decode b_Mo_readItem 27 = .ok (.goto 4, 3) := by decide +kernel
theorem d_Mo_readItem_30 : decode b_Mo_readItem 30 = .ok (.iload_n 1, 1) := by decide +kernel
theorem d_Mo_readItem_31 : decode b_Mo_readItem 31 = .ok (.istore_n 1, 1) := by decide +kernel
theorem d_Mo_readItem_32 : decode b_Mo_readItem 32 = .ok (.iinc 2 1, 3) := by decide +kernel
theorem d_Mo_readItem_35 : decode b_Mo_readItem 35 = .ok (.goto (-31), 3) := by decide +kernel
theorem d_Mo_readItem_38 : decode b_Mo_readItem 38 = .ok (.iload_n 1, 1) := by decide +kernel
theorem d_Mo_readItem_39 : decode b_Mo_readItem 39 = .ok (.ifCond .lt 11, 3) := by decide +kernel
theorem d_Mo_readItem_42 : decode b_Mo_readItem 42 = .ok (.aload_n 0, 1) := by decide +kernel
theorem d_Mo_readItem_43 : decode b_Mo_readItem 43 = .ok (.iload_n 1, 1) := by decide +kernel
theorem d_Mo_readItem_44 : decode b_Mo_readItem 44 = .ok (.invokevirtual 298, 3) := by decide +kernel
theorem d_Mo_readItem_47 : decode b_Mo_readItem 47 = .ok (.goto 75, 3) := by decide +kernel
theorem d_Mo_readItem_50 : decode b_Mo_readItem 50 = .ok (.aload_n 0, 1) := by decide +kernel
theorem d_Mo_readItem_51 : decode b_Mo_readItem 51 = .ok (.ldc_w 301, 3) := by decide +kernel
theorem d_Mo_readItem_54 : decode b_Mo_readItem 54 = .ok (.invokevirtual 285, 3) := by decide +kernel
theorem d_Mo_readItem_57 : decode b_Mo_readItem 57 = .ok (.ifCond .eq 30, 3) := by decide +kernel
theorem d_Mo_readItem_60 : decode b_Mo_readItem 60 = .ok (.aload_n 0, 1) := by decide +kernel
theorem d_Mo_readItem_61 : decode b_Mo_readItem 61 = .ok (.iconst 0, 1) := by decide +kernel
theorem d_Mo_readItem_62 : decode b_Mo_readItem 62 = .ok (.iconst 5, 1) := by decide +kernel
theorem d_Mo_readItem_63 : decode b_Mo_readItem 63 = .ok (.invokevirtual 280, 3) := by decide +kernel
theorem d_Mo_readItem_66 : decode b_Mo_readItem 66 = .ok (.istore_n 2, 1) := by decide +kernel
theorem d_Mo_readItem_67 : decode b_Mo_readItem 67 = .ok (.aload_n 0, 1) := by decide +kernel
theorem d_Mo_readItem_68 : decode b_Mo_readItem 68 = .ok (.bipush 10, 2) := by decide +kernel
theorem d_Mo_readItem_70 : decode b_Mo_readItem 70 = .ok (.iload_n 2, 1) := by decide +kernel
theorem d_Mo_readItem_71 : decode b_Mo_readItem 71 = .ok (.aload_n 0, 1) := by decide +kernel
theorem d_Mo_readItem_72 : decode b_Mo_readItem 72 = .ok (.iconst 0, 1) := by decide +kernel
theorem d_Mo_readItem_73 : decode b_Mo_readItem 73 = .ok (.bipush 15, 2) := by decide +kernel
theorem d_Mo_readItem_75 : decode b_Mo_readItem 75 = .ok (.invokevirtual 280, 3) := by decide +kernel
theorem d_Mo_readItem_78 : decode b_Mo_readItem 78 = .ok (.iconst 0, 1) := by decide +kernel
theorem d_Mo_readItem_79 : decode b_Mo_readItem 79 = .ok (.iconst 0, 1) := by decide +kernel
theorem d_Mo_readItem_80 : decode b_Mo_readItem 80 = .ok (.iconst 0, 1) := by decide +kernel
theorem d_Mo_readItem_81 : decode b_Mo_readItem 81 = .ok (.invokevirtual 294, 3) := by decide +kernel
theorem d_Mo_readItem_84 : decode b_Mo_readItem 84 = .ok (.goto 38, 3) := by decide +kernel
theorem d_Mo_readItem_87 : decode b_Mo_readItem 87 = .ok (.aload_n 0, 1) := by decide +kernel
theorem d_Mo_readItem_88 : decode b_Mo_readItem 88 = .ok (.ldc_w 303, 3) := by decide +kernel
theorem d_Mo_readItem_91 : decode b_Mo_readItem 91 = .ok (.invokevirtual 285, 3) := by decide +kernel
theorem d_Mo_readItem_94 : decode b_Mo_readItem 94 = .ok (.ifCond .eq 23, 3) := by decide +kernel
theorem d_Mo_readItem_97 : decode b_Mo_readItem 97 = .ok (.aload_n 0, 1) := by decide +kernel
theorem d_Mo_readItem_98 : decode b_Mo_readItem 98 = .ok (.bipush 11, 2) := by decide +kernel
theorem d_Mo_readItem_100 : decode b_Mo_readItem 100 = .ok (.aload_n 0, 1) := by decide +kernel
theorem d_Mo_readItem_101 : decode b_Mo_readItem 101 = .ok (.iconst 0, 1) := by decide +kernel
theorem d_Mo_readItem_102 : decode b_Mo_readItem 102 = .ok (.bipush 99, 2) := by decide +kernel
theorem d_Mo_readItem_104 : decode b_Mo_readItem 104 = .ok (.invokevirtual 280, 3) := by decide +kernel
theorem d_Mo_readItem_107 : decode b_Mo_readItem 107 = .ok (.iconst 0, 1) := by decide +kernel
theorem d_Mo_readItem_108 : decode b_Mo_readItem 108 = .ok (.iconst 0, 1) := by decide +kernel
theorem d_Mo_readItem_109 : decode b_Mo_readItem 109 = .ok (.iconst 0, 1) := by decide +kernel
theorem d_Mo_readItem_110 : decode b_Mo_readItem 110 = .ok (.iconst 0, 1) := by decide +kernel
theorem d_Mo_readItem_111 : decode b_Mo_readItem 111 = .ok (.invokevirtual 294, 3) := by decide +kernel
theorem d_Mo_readItem_114 : decode b_Mo_readItem 114 = .ok (.goto 8, 3) := by decide +kernel
theorem d_Mo_readItem_117 : decode b_Mo_readItem 117 = .ok (.aload_n 0, 1) := by decide +kernel
theorem d_Mo_readItem_118 : decode b_Mo_readItem 118 = .ok (.iconst 0, 1) := by decide +kernel
theorem d_Mo_readItem_119 : decode b_Mo_readItem 119 = .ok (.invokevirtual 266, 3) := by decide +kernel
theorem d_Mo_readItem_122 : decode b_Mo_readItem 122 = .ok (.return_, 1) := by decide +kernel
theorem d_Mo_isToldSo_0 : decode b_Mo_isToldSo 0 = .ok (.aload_n 0, 1) := by decide +kernel
theorem d_Mo_isToldSo_1 : decode b_Mo_isToldSo 1 = .ok (.getfield 45, 3) := by decide +kernel
theorem d_Mo_isToldSo_4 : decode b_Mo_isToldSo 4 = .ok (.iload_n 1, 1) := by decide +kernel
theorem d_Mo_isToldSo_5 : decode b_Mo_isToldSo 5 = .ok (.iconst 1, 1) := by decide +kernel
theorem d_Mo_isToldSo_6 : decode b_Mo_isToldSo 6 = .ok (.iadd, 1) := by decide +kernel
theorem d_Mo_isToldSo_7 : decode b_Mo_isToldSo 7 = .ok (.iaload, 1) := by decide +kernel
theorem d_Mo_isToldSo_8 : decode b_Mo_isToldSo 8 = .ok (.istore_n 2, 1) := by decide +kernel
theorem d_Mo_isToldSo_9 : decode b_Mo_isToldSo 9 = .ok (.aload_n 0, 1) := by decide +kernel
theorem d_Mo_isToldSo_10 : decode b_Mo_isToldSo 10 = .ok (.getfield 45, 3) := by decide +kernel
theorem d_Mo_isToldSo_13 : decode b_Mo_isToldSo 13 = .ok (.iload_n 1, 1) := by decide +kernel
theorem d_Mo_isToldSo_14 : decode b_Mo_isToldSo 14 = .ok (.iconst 2, 1) := by decide +kernel
theorem d_Mo_isToldSo_15 : decode b_Mo_isToldSo 15 = .ok (.iadd, 1) := by decide +kernel
theorem d_Mo_isToldSo_16 : decode b_Mo_isToldSo 16 = .ok (.iaload, 1) := by decide +kernel
theorem d_Mo_isToldSo_17 : decode b_Mo_isToldSo 17 = .ok (.istore_n 3, 1) := by decide +kernel
theorem d_Mo_isToldSo_18 : decode b_Mo_isToldSo 18 = .ok (.aload_n 0, 1) := by decide +kernel
theorem d_Mo_isToldSo_19 : decode b_Mo_isToldSo 19 = .ok (.getfield 45, 3) := by decide +kernel
theorem d_Mo_isToldSo_22 : decode b_Mo_isToldSo 22 = .ok (.iload_n 1, 1) := by decide +kernel
theorem d_Mo_isToldSo_23 : decode b_Mo_isToldSo 23 = .ok (.iaload, 1) := by decide +kernel
theorem d_Mo_isToldSo_24 : decode b_Mo_isToldSo 24 = .ok (.lookupswitch 50 #[(10, 28), (11, 40)], 28) := by decide +kernel
theorem d_Mo_isToldSo_52 : decode b_Mo_isToldSo 52 = .ok (.aload_n 0, 1) := by decide +kernel
theorem d_Mo_isToldSo_53 : decode b_Mo_isToldSo 53 = .ok (.getfield 9, 3) := by decide +kernel
theorem d_Mo_isToldSo_56 : decode b_Mo_isToldSo 56 = .ok (.iconst 4, 1) := by decide +kernel
theorem d_Mo_isToldSo_57 : decode b_Mo_isToldSo 57 = .ok (.iload_n 2, 1) := by decide +kernel
theorem d_Mo_isToldSo_58 : decode b_Mo_isToldSo 58 = .ok (.iadd, 1) := by decide +kernel
theorem d_Mo_isToldSo_59 : decode b_Mo_isToldSo 59 = .ok (.iload_n 3, 1) := by decide +kernel
theorem d_Mo_isToldSo_60 : decode b_Mo_isToldSo 60 = .ok (.iastore, 1) := by decide +kernel
theorem d_Mo_isToldSo_61 : decode b_Mo_isToldSo 61 = .ok (.goto 95, 3) := by decide +kernel
theorem d_Mo_isToldSo_64 : decode b_Mo_isToldSo 64 = .ok (.aload_n 0, 1) := by decide +kernel
theorem d_Mo_isToldSo_65 : decode b_Mo_isToldSo 65 = .ok (.getfield 9, 3) := by decide +kernel
theorem d_Mo_isToldSo_68 : decode b_Mo_isToldSo 68 = .ok (.iconst 3, 1) := by decide +kernel
theorem d_Mo_isToldSo_69 : decode b_Mo_isToldSo 69 = .ok (.iload_n 2, 1) := by decide +kernel
theorem d_Mo_isToldSo_70 : decode b_Mo_isToldSo 70 = .ok (.iastore, 1) := by decide +kernel
theorem d_Mo_isToldSo_71 : decode b_Mo_isToldSo 71 = .ok (.goto 85, 3) := by decide +kernel
theorem d_Mo_isToldSo_74 : decode b_Mo_isToldSo 74 = .ok (.aload_n 0, 1) := by decide +kernel
theorem d_Mo_isToldSo_75 : decode b_Mo_isToldSo 75 = .ok (.aload_n 0, 1) := by decide +kernel
theorem d_Mo_isToldSo_76 : decode b_Mo_isToldSo 76 = .ok (.getfield 45, 3) := by decide +kernel
theorem d_Mo_isToldSo_79 : decode b_Mo_isToldSo 79 = .ok (.iload_n 1, 1) := by decide +kernel
theorem d_Mo_isToldSo_80 : decode b_Mo_isToldSo 80 = .ok (.iaload, 1) := by decide +kernel
theorem d_Mo_isToldSo_81 : decode b_Mo_isToldSo 81 = .ok (.iload_n 2, 1) := by decide +kernel
theorem d_Mo_isToldSo_82 : decode b_Mo_isToldSo 82 = .ok (.invokevirtual 98, 3) := by decide +kernel
theorem d_Mo_isToldSo_85 : decode b_Mo_isToldSo 85 = .ok (.istore 4, 2) := by decide +kernel
theorem d_Mo_isToldSo_87 : decode b_Mo_isToldSo 87 = .ok (.aload_n 0, 1) := by decide +kernel
theorem d_Mo_isToldSo_88 : decode b_Mo_isToldSo 88 = .ok (.getfield 9, 3) := by decide +kernel
theorem d_Mo_isToldSo_91 : decode b_Mo_isToldSo 91 = .ok (.iload 4, 2) := by decide +kernel
theorem d_Mo_isToldSo_93 : decode b_Mo_isToldSo 93 = .ok (.iconst 2, 1) := by decide +kernel
theorem d_Mo_isToldSo_94 : decode b_Mo_isToldSo 94 = .ok (.invokestatic 88, 3) := by decide +kernel
theorem d_Mo_isToldSo_97 : decode b_Mo_isToldSo 97 = .ok (.iload_n 3, 1) := by decide +kernel
theorem d_Mo_isToldSo_98 : decode b_Mo_isToldSo 98 = .ok (.iastore, 1) := by decide +kernel
theorem d_Mo_isToldSo_99 : decode b_Mo_isToldSo 99 = .ok (.aload_n 0, 1) := by decide +kernel
theorem d_Mo_isToldSo_100 : decode b_Mo_isToldSo 100 = .ok (.getfield 9, 3) := by decide +kernel
theorem d_Mo_isToldSo_103 : decode b_Mo_isToldSo 103 = .ok (.iload 4, 2) := by decide +kernel
theorem d_Mo_isToldSo_105 : decode b_Mo_isToldSo 105 = .ok (.iconst 3, 1) := by decide +kernel
theorem d_Mo_isToldSo_106 : decode b_Mo_isToldSo 106 = .ok (.invokestatic 88, 3) := by decide +kernel
theorem d_Mo_isToldSo_109 : decode b_Mo_isToldSo 109 = .ok (.aload_n 0, 1) := by decide +kernel
theorem d_Mo_isToldSo_110 : decode b_Mo_isToldSo 110 = .ok (.getfield 45, 3) := by decide +kernel
theorem d_Mo_isToldSo_113 : decode b_Mo_isToldSo 113 = .ok (.iload_n 1, 1) := by decide +kernel
theorem d_Mo_isToldSo_114 : decode b_Mo_isToldSo 114 = .ok (.iconst 3, 1) := by decide +kernel
theorem d_Mo_isToldSo_115 : decode b_Mo_isToldSo 115 = .ok (.iadd, 1) := by decide +kernel
theorem d_Mo_isToldSo_116 : decode b_Mo_isToldSo 116 = .ok (.iaload, 1) := by decide +kernel
theorem d_Mo_isToldSo_117 : decode b_Mo_isToldSo 117 = .ok (.iastore, 1) := by decide +kernel
theorem d_Mo_isToldSo_118 : decode b_Mo_isToldSo 118 = .ok (.aload_n 0, 1) := by decide +kernel
theorem d_Mo_isToldSo_119 : decode b_Mo_isToldSo 119 = .ok (.getfield 9, 3) := by decide +kernel
theorem d_Mo_isToldSo_122 : decode b_Mo_isToldSo 122 = .ok (.iload 4, 2) := by decide +kernel
theorem d_Mo_isToldSo_124 : decode b_Mo_isToldSo 124 = .ok (.iconst 4, 1) := by decide +kernel
theorem d_Mo_isToldSo_125 : decode b_Mo_isToldSo 125 = .ok (.invokestatic 88, 3) := by decide +kernel
theorem d_Mo_isToldSo_128 : decode b_Mo_isToldSo 128 = .ok (.aload_n 0, 1) := by decide +kernel
theorem d_Mo_isToldSo_129 : decode b_Mo_isToldSo 129 = .ok (.getfield 45, 3) := by decide +kernel
theorem d_Mo_isToldSo_132 : decode b_Mo_isToldSo 132 = .ok (.iload_n 1, 1) := by decide +kernel
theorem d_Mo_isToldSo_133 : decode b_Mo_isToldSo 133 = .ok (.iconst 4, 1) := by decide +kernel
theorem d_Mo_isToldSo_134 : decode b_Mo_isToldSo 134 = .ok (.iadd, 1) := by decide +kernel
theorem d_Mo_isToldSo_135 : decode b_Mo_isToldSo 135 = .ok (.iaload, 1) := by decide +kernel
theorem d_Mo_isToldSo_136 : decode b_Mo_isToldSo 136 = .ok (.iastore, 1) := by decide +kernel
theorem d_Mo_isToldSo_137 : decode b_Mo_isToldSo 137 = .ok (.aload_n 0, 1) := by decide +kernel
theorem d_Mo_isToldSo_138 : decode b_Mo_isToldSo 138 = .ok (.getfield 9, 3) := by decide +kernel
theorem d_Mo_isToldSo_141 : decode b_Mo_isToldSo 141 = .ok (.iload 4, 2) := by decide +kernel
theorem d_Mo_isToldSo_143 : decode b_Mo_isToldSo 143 = .ok (.iconst 5, 1) := by decide +kernel
theorem d_Mo_isToldSo_144 : decode b_Mo_isToldSo 144 = .ok (.invokestatic 88, 3) := by decide +kernel
theorem d_Mo_isToldSo_147 : decode b_Mo_isToldSo 147 = .ok (.aload_n 0, 1) := by decide +kernel
theorem d_Mo_isToldSo_148 : decode b_Mo_isToldSo 148 = .ok (.getfield 45, 3) := by decide +kernel
theorem d_Mo_isToldSo_151 : decode b_Mo_isToldSo 151 = .ok (.iload_n 1, 1) := by decide +kernel
theorem d_Mo_isToldSo_152 : decode b_Mo_isToldSo 152 = .ok (.iconst 5, 1) := by decide +kernel
theorem d_Mo_isToldSo_153 : decode b_Mo_isToldSo 153 = .ok (.iadd, 1) := by decide +kernel
theorem d_Mo_isToldSo_154 : decode b_Mo_isToldSo 154 = .ok (.iaload, 1) := by decide +kernel
theorem d_Mo_isToldSo_155 : decode b_Mo_isToldSo 155 = .ok (.iastore, 1) := by decide +kernel
theorem d_Mo_isToldSo_156 : decode b_Mo_isToldSo 156 = .ok (.return_, 1) := by decide +kernel
theorem d_Mo_text_0 : decode b_Mo_text 0 = .ok (.aload_n 0, 1) := by decide +kernel
theorem d_Mo_text_1 : decode b_Mo_text 1 = .ok (.iconst 0, 1) := by decide +kernel
theorem d_Mo_text_2 : decode b_Mo_text 2 = .ok (.putfield 237, 3) := by decide +kernel
theorem d_Mo_text_5 : decode b_Mo_text 5 = .ok (.aload_n 0, 1) := by decide +kernel
theorem d_Mo_text_6 : decode b_Mo_text 6 = .ok (.iconst 0, 1) := by decide +kernel
theorem d_Mo_text_7 : decode b_Mo_text 7 = .ok (.putfield 259, 3) := by decide +kernel
theorem d_Mo_text_10 : decode b_Mo_text 10 = .ok (.aload_n 0, 1) := by decide +kernel
theorem d_Mo_text_11 : decode b_Mo_text 11 = .ok (.iconst 0, 1) := by decide +kernel
theorem d_Mo_text_12 : decode b_Mo_text 12 = .ok (.putfield 270, 3) := by decide +kernel
theorem d_Mo_text_15 : decode b_Mo_text 15 = .ok (.aload_n 0, 1) := by decide +kernel
theorem d_Mo_text_16 : decode b_Mo_text 16 = .ok (.aload_n 0, 1) := by decide +kernel
theorem d_Mo_text_17 : decode b_Mo_text 17 = .ok (.getfield 9, 3) := by decide +kernel
theorem d_Mo_text_20 : decode b_Mo_text 20 = .ok (.iconst 1, 1) := by decide +kernel
theorem d_Mo_text_21 : decode b_Mo_text 21 = .ok (.iaload, 1) := by decide +kernel
theorem d_Mo_text_22 : decode b_Mo_text 22 = .ok (.putfield 277, 3) := by decide +kernel
theorem d_Mo_text_25 : decode b_Mo_text 25 = .ok (.aload_n 0, 1) := by decide +kernel
theorem d_Mo_text_26 : decode b_Mo_text 26 = .ok (.invokevirtual 263, 3) := by decide +kernel
theorem d_Mo_text_29 : decode b_Mo_text 29 = .ok (.aload_n 0, 1) := by decide +kernel
theorem d_Mo_text_30 : decode b_Mo_text 30 = .ok (.invokevirtual 305, 3) := by decide +kernel
theorem d_Mo_text_33 : decode b_Mo_text 33 = .ok (.aload_n 0, 1) := by decide +kernel
theorem d_Mo_text_34 : decode b_Mo_text 34 = .ok (.getfield 259, 3) := by decide +kernel
theorem d_Mo_text_37 : decode b_Mo_text 37 = .ok (.ifCond .ne 37, 3) := by decide +kernel
theorem d_Mo_text_40 : decode b_Mo_text 40 = .ok (.aload_n 0, 1) := by decide +kernel
theorem d_Mo_text_41 : decode b_Mo_text 41 = .ok (.getfield 249, 3) := by decide +kernel
theorem d_Mo_text_44 : decode b_Mo_text 44 = .ok (.iconst 3, 1) := by decide +kernel
theorem d_Mo_text_45 : decode b_Mo_text 45 = .ok (.if_icmp .ne 29, 3) := by decide +kernel
theorem d_Mo_text_48 : decode b_Mo_text 48 = .ok (.aload_n 0, 1) := by decide +kernel
theorem d_Mo_text_49 : decode b_Mo_text 49 = .ok (.getfield 22, 3) := by decide +kernel
theorem d_Mo_text_52 : decode b_Mo_text 52 = .ok (.aload_n 0, 1) := by decide +kernel
theorem d_Mo_text_53 : decode b_Mo_text 53 = .ok (.getfield 240, 3) := by decide +kernel
theorem d_Mo_text_56 : decode b_Mo_text 56 = .ok (.iaload, 1) := by decide +kernel
theorem d_Mo_text_57 : decode b_Mo_text 57 = .ok (.bipush 59, 2) := by decide +kernel
theorem d_Mo_text_59 : decode b_Mo_text 59 = .ok (.if_icmp .ne 15, 3) := by decide +kernel
theorem d_Mo_text_62 : decode b_Mo_text 62 = .ok (.aload_n 0, 1) := by decide +kernel
theorem d_Mo_text_63 : decode b_Mo_text 63 = .ok (.iconst 1, 1) := by decide +kernel
theorem d_Mo_text_64 : decode b_Mo_text 64 = .ok (.invokevirtual 266, 3) := by decide +kernel
theorem d_Mo_text_67 : decode b_Mo_text 67 = .ok (.aload_n 0, 1) := by decide +kernel
theorem d_Mo_text_68 : decode b_Mo_text 68 = .ok (.invokevirtual 305, 3) := by decide +kernel
theorem d_Mo_text_71 : decode b_Mo_text 71 = .ok (.goto (-38), 3) := by decide +kernel
theorem d_Mo_text_74 : decode b_Mo_text 74 = .ok (.aload_n 0, 1) := by decide +kernel
theorem d_Mo_text_75 : decode b_Mo_text 75 = .ok (.aload_n 0, 1) := by decide +kernel
theorem d_Mo_text_76 : decode b_Mo_text 76 = .ok (.getfield 249, 3) := by decide +kernel
theorem d_Mo_text_79 : decode b_Mo_text 79 = .ok (.ifCond .ne 7, 3) := by decide +kernel
theorem d_Mo_text_82 : decode b_Mo_text 82 = .ok (.iconst 1, 1) := by decide +kernel
theorem d_Mo_text_83 : decode b_Mo_text 83 = .ok (.goto 4, 3) := by decide +kernel
theorem d_Mo_text_86 : decode b_Mo_text 86 = .ok (.iconst 0, 1) := by decide +kernel
theorem d_Mo_text_87 : decode b_Mo_text 87 = .ok (.invokevirtual 266, 3) := by decide +kernel
theorem d_Mo_text_90 : decode b_Mo_text 90 = .ok (.aload_n 0, 1) := by decide +kernel
theorem d_Mo_text_91 : decode b_Mo_text 91 = .ok (.iconst 0, 1) := by decide +kernel
theorem d_Mo_text_92 : decode b_Mo_text 92 = .ok (.putfield 233, 3) := by decide +kernel
theorem d_Mo_text_95 : decode b_Mo_text 95 = .ok (.aload_n 0, 1) := by decide +kernel
theorem d_Mo_text_96 : decode b_Mo_text 96 = .ok (.getfield 259, 3) := by decide +kernel
theorem d_Mo_text_99 : decode b_Mo_text 99 = .ok (.ifCond .eq 10, 3) := by decide +kernel
theorem d_Mo_text_102 : decode b_Mo_text 102 = .ok (.iconst (-1), 1) := by decide +kernel
theorem d_Mo_text_103 : decode b_Mo_text 103 = .ok (.aload_n 0, 1) := by decide +kernel
theorem d_Mo_text_104 : decode b_Mo_text 104 = .ok (.getfield 240, 3) := by decide +kernel
theorem d_Mo_text_107 : decode b_Mo_text 107 = .ok (.isub, 1) := by decide +kernel
theorem d_Mo_text_108 : decode b_Mo_text 108 = .ok (.ireturn, 1) := by decide +kernel
theorem d_Mo_text_109 : decode b_Mo_text 109 = .ok (.iconst 0, 1) := by decide +kernel
theorem d_Mo_text_110 : decode b_Mo_text 110 = .ok (.istore_n 1, 1) := by decide +kernel
theorem d_Mo_text_111 : decode b_Mo_text 111 = .ok (.iload_n 1, 1) := by decide +kernel
theorem d_Mo_text_112 : decode b_Mo_text 112 = .ok (.aload_n 0, 1) := by decide +kernel
theorem d_Mo_text_113 : decode b_Mo_text 113 = .ok (.getfield 270, 3) := by decide +kernel
theorem d_Mo_text_116 : decode b_Mo_text 116 = .ok (.if_icmp .ge 17, 3) := by decide +kernel
theorem d_Mo_text_119 : decode b_Mo_text 119 = .ok (.aload_n 0, 1) := by decide +kernel
theorem d_Mo_text_120 : decode b_Mo_text 120 = .ok (.bipush 6, 2) := by decide +kernel
theorem d_Mo_text_122 : decode b_Mo_text 122 = .ok (.iload_n 1, 1) := by decide +kernel
theorem d_Mo_text_123 : decode b_Mo_text 123 = .ok (.imul, 1) := by decide +kernel
theorem d_Mo_text_124 : decode b_Mo_text 124 = .ok (.invokevirtual 308, 3) := by decide +kernel
theorem d_Mo_text_127 : decode b_Mo_text 127 = .ok (.iinc 1 1, 3) := by decide +kernel
theorem d_Mo_text_130 : decode b_Mo_text 130 = .ok (.goto (-19), 3) := by decide +kernel
theorem d_Mo_text_133 : decode b_Mo_text 133 = .ok (.aload_n 0, 1) := by decide +kernel
theorem d_Mo_text_134 : decode b_Mo_text 134 = .ok (.getfield 270, 3) := by decide +kernel
theorem d_Mo_text_137 : decode b_Mo_text 137 = .ok (.ireturn, 1) := by decide +kernel
theorem d_Mo_isSpot_0 : decode b_Mo_isSpot 0 = .ok (.iload_n 0, 1) := by decide +kernel
theorem d_Mo_isSpot_1 : decode b_Mo_isSpot 1 = .ok (.iconst 0, 1) := by decide +kernel
theorem d_Mo_isSpot_2 : decode b_Mo_isSpot 2 = .ok (.bipush 9, 2) := by decide +kernel
theorem d_Mo_isSpot_4 : decode b_Mo_isSpot 4 = .ok (.invokestatic 70, 3) := by decide +kernel
theorem d_Mo_isSpot_7 : decode b_Mo_isSpot 7 = .ok (.ireturn, 1) := by decide +kernel
theorem d_Mo_hold_0 : decode b_Mo_hold 0 = .ok (.iload_n 1, 1) := by decide +kernel
theorem d_Mo_hold_1 : decode b_Mo_hold 1 = .ok (.invokestatic 311, 3) := by decide +kernel
theorem d_Mo_hold_4 : decode b_Mo_hold 4 = .ok (.ifCond .eq 16, 3) := by decide +kernel
theorem d_Mo_hold_7 : decode b_Mo_hold 7 = .ok (.iload_n 2, 1) := by decide +kernel
theorem d_Mo_hold_8 : decode b_Mo_hold 8 = .ok (.iconst (-1), 1) := by decide +kernel
theorem d_Mo_hold_9 : decode b_Mo_hold 9 = .ok (.if_icmp .eq 18, 3) := by decide +kernel
theorem d_Mo_hold_12 : decode b_Mo_hold 12 = .ok (.aload_n 0, 1) := by decide +kernel
theorem d_Mo_hold_13 : decode b_Mo_hold 13 = .ok (.iload_n 2, 1) := by decide +kernel
theorem d_Mo_hold_14 : decode b_Mo_hold 14 = .ok (.invokevirtual 121, 3) := by decide +kernel
theorem d_Mo_hold_17 : decode b_Mo_hold 17 = .ok (.ifCond .ne 10, 3) := by decide +kernel
theorem d_Mo_hold_20 : decode b_Mo_hold 20 = .ok (.aload_n 0, 1) := by decide +kernel
theorem d_Mo_hold_21 : decode b_Mo_hold 21 = .ok (.ldc 60, 2) := by decide +kernel
theorem d_Mo_hold_23 : decode b_Mo_hold 23 = .ok (.invokevirtual 66, 3) := by decide +kernel
theorem d_Mo_hold_26 : decode b_Mo_hold 26 = .ok (.ireturn, 1) := by decide +kernel
theorem d_Mo_hold_27 : decode b_Mo_hold 27 = .ok (.aload_n 0, 1) := by decide +kernel
theorem d_Mo_hold_28 : decode b_Mo_hold 28 = .ok (.getfield 9, 3) := by decide +kernel
theorem d_Mo_hold_31 : decode b_Mo_hold 31 = .ok (.bipush 10, 2) := by decide +kernel
theorem d_Mo_hold_33 : decode b_Mo_hold 33 = .ok (.iload_n 1, 1) := by decide +kernel
theorem d_Mo_hold_34 : decode b_Mo_hold 34 = .ok (.iadd, 1) := by decide +kernel
theorem d_Mo_hold_35 : decode b_Mo_hold 35 = .ok (.iload_n 2, 1) := by decide +kernel
theorem d_Mo_hold_36 : decode b_Mo_hold 36 = .ok (.iastore, 1) := by decide +kernel
theorem d_Mo_hold_37 : decode b_Mo_hold 37 = .ok (.iconst 1, 1) := by decide +kernel
theorem d_Mo_hold_38 : decode b_Mo_hold 38 = .ok (.ireturn, 1) := by decide +kernel
theorem d_Mo_as_0 : decode b_Mo_as 0 = .ok (.iload_n 1, 1) := by decide +kernel
theorem d_Mo_as_1 : decode b_Mo_as 1 = .ok (.invokestatic 311, 3) := by decide +kernel
theorem d_Mo_as_4 : decode b_Mo_as 4 = .ok (.ifCond .eq 10, 3) := by decide +kernel
theorem d_Mo_as_7 : decode b_Mo_as 7 = .ok (.iload_n 2, 1) := by decide +kernel
theorem d_Mo_as_8 : decode b_Mo_as 8 = .ok (.invokestatic 94, 3) := by decide +kernel
theorem d_Mo_as_11 : decode b_Mo_as 11 = .ok (.ifCond .ne 10, 3) := by decide +kernel
theorem d_Mo_as_14 : decode b_Mo_as 14 = .ok (.aload_n 0, 1) := by decide +kernel
theorem d_Mo_as_15 : decode b_Mo_as 15 = .ok (.ldc 60, 2) := by decide +kernel
theorem d_Mo_as_17 : decode b_Mo_as 17 = .ok (.invokevirtual 66, 3) := by decide +kernel
theorem d_Mo_as_20 : decode b_Mo_as 20 = .ok (.ireturn, 1) := by decide +kernel
theorem d_Mo_as_21 : decode b_Mo_as 21 = .ok (.aload_n 0, 1) := by decide +kernel
theorem d_Mo_as_22 : decode b_Mo_as 22 = .ok (.getfield 9, 3) := by decide +kernel
theorem d_Mo_as_25 : decode b_Mo_as 25 = .ok (.bipush 10, 2) := by decide +kernel
theorem d_Mo_as_27 : decode b_Mo_as 27 = .ok (.iload_n 1, 1) := by decide +kernel
theorem d_Mo_as_28 : decode b_Mo_as 28 = .ok (.iadd, 1) := by decide +kernel
theorem d_Mo_as_29 : decode b_Mo_as 29 = .ok (.iaload, 1) := by decide +kernel
theorem d_Mo_as_30 : decode b_Mo_as 30 = .ok (.istore_n 3, 1) := by decide +kernel
theorem d_Mo_as_31 : decode b_Mo_as 31 = .ok (.iload_n 3, 1) := by decide +kernel
theorem d_Mo_as_32 : decode b_Mo_as 32 = .ok (.ifCond .ge 10, 3) := by decide +kernel
theorem d_Mo_as_35 : decode b_Mo_as 35 = .ok (.aload_n 0, 1) := by decide +kernel
theorem d_Mo_as_36 : decode b_Mo_as 36 = .ok (.ldc 214, 2) := by decide +kernel
theorem d_Mo_as_38 : decode b_Mo_as 38 = .ok (.invokevirtual 66, 3) := by decide +kernel
theorem d_Mo_as_41 : decode b_Mo_as 41 = .ok (.ireturn, 1) := by decide +kernel
theorem d_Mo_as_42 : decode b_Mo_as 42 = .ok (.aload_n 0, 1) := by decide +kernel
theorem d_Mo_as_43 : decode b_Mo_as 43 = .ok (.iload_n 3, 1) := by decide +kernel
theorem d_Mo_as_44 : decode b_Mo_as 44 = .ok (.iconst 0, 1) := by decide +kernel
theorem d_Mo_as_45 : decode b_Mo_as 45 = .ok (.invokevirtual 101, 3) := by decide +kernel
theorem d_Mo_as_48 : decode b_Mo_as 48 = .ok (.iload_n 2, 1) := by decide +kernel
theorem d_Mo_as_49 : decode b_Mo_as 49 = .ok (.invokestatic 314, 3) := by decide +kernel
theorem d_Mo_as_52 : decode b_Mo_as 52 = .ok (.ifCond .eq 7, 3) := by decide +kernel
theorem d_Mo_as_55 : decode b_Mo_as 55 = .ok (.iload_n 3, 1) := by decide +kernel
theorem d_Mo_as_56 : decode b_Mo_as 56 = .ok (.goto 10, 3) := by decide +kernel
theorem d_Mo_as_59 : decode b_Mo_as 59 = .ok (.aload_n 0, 1) := by decide +kernel
theorem d_Mo_as_60 : decode b_Mo_as 60 = .ok (.ldc_w 317, 3) := by decide +kernel
theorem d_Mo_as_63 : decode b_Mo_as 63 = .ok (.invokevirtual 66, 3) := by decide +kernel
theorem d_Mo_as_66 : decode b_Mo_as 66 = .ok (.ireturn, 1) := by decide +kernel
theorem d_Mo_isSheet_0 : decode b_Mo_isSheet 0 = .ok (.iload_n 0, 1) := by decide +kernel
theorem d_Mo_isSheet_1 : decode b_Mo_isSheet 1 = .ok (.iconst 0, 1) := by decide +kernel
theorem d_Mo_isSheet_2 : decode b_Mo_isSheet 2 = .ok (.iconst 3, 1) := by decide +kernel
theorem d_Mo_isSheet_3 : decode b_Mo_isSheet 3 = .ok (.invokestatic 70, 3) := by decide +kernel
theorem d_Mo_isSheet_6 : decode b_Mo_isSheet 6 = .ok (.ireturn, 1) := by decide +kernel
theorem d_Mo_cutTo_0 : decode b_Mo_cutTo 0 = .ok (.iload_n 1, 1) := by decide +kernel
theorem d_Mo_cutTo_1 : decode b_Mo_cutTo 1 = .ok (.bipush 8, 2) := by decide +kernel
theorem d_Mo_cutTo_3 : decode b_Mo_cutTo 3 = .ok (.if_icmp .ne 8, 3) := by decide +kernel
theorem d_Mo_cutTo_6 : decode b_Mo_cutTo 6 = .ok (.iload_n 0, 1) := by decide +kernel
theorem d_Mo_cutTo_7 : decode b_Mo_cutTo 7 = .ok (.i2b, 1) := by decide +kernel
theorem d_Mo_cutTo_8 : decode b_Mo_cutTo 8 = .ok (.goto 15, 3) := by decide +kernel
theorem d_Mo_cutTo_11 : decode b_Mo_cutTo 11 = .ok (.iload_n 1, 1) := by decide +kernel
theorem d_Mo_cutTo_12 : decode b_Mo_cutTo 12 = .ok (.bipush 16, 2) := by decide +kernel
theorem d_Mo_cutTo_14 : decode b_Mo_cutTo 14 = .ok (.if_icmp .ne 8, 3) := by decide +kernel
theorem d_Mo_cutTo_17 : decode b_Mo_cutTo 17 = .ok (.iload_n 0, 1) := by decide +kernel
theorem d_Mo_cutTo_18 : decode b_Mo_cutTo 18 = .ok (.i2s, 1) := by decide +kernel
theorem d_Mo_cutTo_19 : decode b_Mo_cutTo 19 = .ok (.goto 4, 3) := by decide +kernel
theorem d_Mo_cutTo_22 : decode b_Mo_cutTo 22 = .ok (.iload_n 0, 1) := by decide +kernel
theorem d_Mo_cutTo_23 : decode b_Mo_cutTo 23 = .ok (.ireturn, 1) := by decide +kernel
theorem d_Mo_sheet_0 : decode b_Mo_sheet 0 = .ok (.iload_n 1, 1) := by decide +kernel
theorem d_Mo_sheet_1 : decode b_Mo_sheet 1 = .ok (.invokestatic 211, 3) := by decide +kernel
theorem d_Mo_sheet_4 : decode b_Mo_sheet 4 = .ok (.ifCond .eq 25, 3) := by decide +kernel
theorem d_Mo_sheet_7 : decode b_Mo_sheet 7 = .ok (.iload_n 2, 1) := by decide +kernel
theorem d_Mo_sheet_8 : decode b_Mo_sheet 8 = .ok (.ifCond .eq 28, 3) := by decide +kernel
theorem d_Mo_sheet_11 : decode b_Mo_sheet 11 = .ok (.iload_n 2, 1) := by decide +kernel
theorem d_Mo_sheet_12 : decode b_Mo_sheet 12 = .ok (.bipush 8, 2) := by decide +kernel
theorem d_Mo_sheet_14 : decode b_Mo_sheet 14 = .ok (.if_icmp .eq 22, 3) := by decide +kernel
theorem d_Mo_sheet_17 : decode b_Mo_sheet 17 = .ok (.iload_n 2, 1) := by decide +kernel
theorem d_Mo_sheet_18 : decode b_Mo_sheet 18 = .ok (.bipush 16, 2) := by decide +kernel
theorem d_Mo_sheet_20 : decode b_Mo_sheet 20 = .ok (.if_icmp .eq 16, 3) := by decide +kernel
theorem d_Mo_sheet_23 : decode b_Mo_sheet 23 = .ok (.iload_n 2, 1) := by decide +kernel
theorem d_Mo_sheet_24 : decode b_Mo_sheet 24 = .ok (.bipush 32, 2) := by decide +kernel
theorem d_Mo_sheet_26 : decode b_Mo_sheet 26 = .ok (.if_icmp .eq 10, 3) := by decide +kernel
theorem d_Mo_sheet_29 : decode b_Mo_sheet 29 = .ok (.aload_n 0, 1) := by decide +kernel
theorem d_Mo_sheet_30 : decode b_Mo_sheet 30 = .ok (.ldc 60, 2) := by decide +kernel
theorem d_Mo_sheet_32 : decode b_Mo_sheet 32 = .ok (.invokevirtual 66, 3) := by decide +kernel
theorem d_Mo_sheet_35 : decode b_Mo_sheet 35 = .ok (.ireturn, 1) := by decide +kernel
theorem d_Mo_sheet_36 : decode b_Mo_sheet 36 = .ok (.iload_n 3, 1) := by decide +kernel
theorem d_Mo_sheet_37 : decode b_Mo_sheet 37 = .ok (.ifCond .ge 11, 3) := by decide +kernel
theorem d_Mo_sheet_40 : decode b_Mo_sheet 40 = .ok (.aload_n 0, 1) := by decide +kernel
theorem d_Mo_sheet_41 : decode b_Mo_sheet 41 = .ok (.ldc_w 318, 3) := by decide +kernel
theorem d_Mo_sheet_44 : decode b_Mo_sheet 44 = .ok (.invokevirtual 66, 3) := by decide +kernel
theorem d_Mo_sheet_47 : decode b_Mo_sheet 47 = .ok (.ireturn, 1) := by decide +kernel
theorem d_Mo_sheet_48 : decode b_Mo_sheet 48 = .ok (.iload_n 3, 1) := by decide +kernel
theorem d_Mo_sheet_49 : decode b_Mo_sheet 49 = .ok (.bipush 40, 2) := by decide +kernel
theorem d_Mo_sheet_51 : decode b_Mo_sheet 51 = .ok (.if_icmp .le 10, 3) := by decide +kernel
theorem d_Mo_sheet_54 : decode b_Mo_sheet 54 = .ok (.aload_n 0, 1) := by decide +kernel
theorem d_Mo_sheet_55 : decode b_Mo_sheet 55 = .ok (.ldc 60, 2) := by decide +kernel
theorem d_Mo_sheet_57 : decode b_Mo_sheet 57 = .ok (.invokevirtual 66, 3) := by decide +kernel
theorem d_Mo_sheet_60 : decode b_Mo_sheet 60 = .ok (.ireturn, 1) := by decide +kernel
theorem d_Mo_sheet_61 : decode b_Mo_sheet 61 = .ok (.aload_n 0, 1) := by decide +kernel
theorem d_Mo_sheet_62 : decode b_Mo_sheet 62 = .ok (.getfield 48, 3) := by decide +kernel
theorem d_Mo_sheet_65 : decode b_Mo_sheet 65 = .ok (.iload_n 1, 1) := by decide +kernel
theorem d_Mo_sheet_66 : decode b_Mo_sheet 66 = .ok (.iload_n 2, 1) := by decide +kernel
theorem d_Mo_sheet_67 : decode b_Mo_sheet 67 = .ok (.iastore, 1) := by decide +kernel
theorem d_Mo_sheet_68 : decode b_Mo_sheet 68 = .ok (.aload_n 0, 1) := by decide +kernel
theorem d_Mo_sheet_69 : decode b_Mo_sheet 69 = .ok (.getfield 51, 3) := by decide +kernel
theorem d_Mo_sheet_72 : decode b_Mo_sheet 72 = .ok (.iload_n 1, 1) := by decide +kernel
theorem d_Mo_sheet_73 : decode b_Mo_sheet 73 = .ok (.iload_n 2, 1) := by decide +kernel
theorem d_Mo_sheet_74 : decode b_Mo_sheet 74 = .ok (.ifCond .ne 7, 3) := by decide +kernel
theorem d_Mo_sheet_77 : decode b_Mo_sheet 77 = .ok (.iconst 0, 1) := by decide +kernel
theorem d_Mo_sheet_78 : decode b_Mo_sheet 78 = .ok (.goto 4, 3) := by decide +kernel
theorem d_Mo_sheet_81 : decode b_Mo_sheet 81 = .ok (.iload_n 3, 1) := by decide +kernel
theorem d_Mo_sheet_82 : decode b_Mo_sheet 82 = .ok (.iastore, 1) := by decide +kernel
theorem d_Mo_sheet_83 : decode b_Mo_sheet 83 = .ok (.iconst 0, 1) := by decide +kernel
theorem d_Mo_sheet_84 : decode b_Mo_sheet 84 = .ok (.istore 4, 2) := by decide +kernel
theorem d_Mo_sheet_86 : decode b_Mo_sheet 86 = .ok (.iload 4, 2) := by decide +kernel
theorem d_Mo_sheet_88 : decode b_Mo_sheet 88 = .ok (.bipush 40, 2) := by decide +kernel
theorem d_Mo_sheet_90 : decode b_Mo_sheet 90 = .ok (.if_icmp .ge 22, 3) := by decide +kernel
theorem d_Mo_sheet_93 : decode b_Mo_sheet 93 = .ok (.aload_n 0, 1) := by decide +kernel
theorem d_Mo_sheet_94 : decode b_Mo_sheet 94 = .ok (.getfield 54, 3) := by decide +kernel
theorem d_Mo_sheet_97 : decode b_Mo_sheet 97 = .ok (.bipush 40, 2) := by decide +kernel
theorem d_Mo_sheet_99 : decode b_Mo_sheet 99 = .ok (.iload_n 1, 1) := by decide +kernel
theorem d_Mo_sheet_100 : decode b_Mo_sheet 100 = .ok (.imul, 1) := by decide +kernel
theorem d_Mo_sheet_101 : decode b_Mo_sheet 101 = .ok (.iload 4, 2) := by decide +kernel
theorem d_Mo_sheet_103 : decode b_Mo_sheet 103 = .ok (.iadd, 1) := by decide +kernel
theorem d_Mo_sheet_104 : decode b_Mo_sheet 104 = .ok (.iconst 0, 1) := by decide +kernel
theorem d_Mo_sheet_105 : decode b_Mo_sheet 105 = .ok (.iastore, 1) := by decide +kernel
theorem d_Mo_sheet_106 : decode b_Mo_sheet 106 = .ok (.iinc 4 1, 3) := by decide +kernel
theorem d_Mo_sheet_109 : decode b_Mo_sheet 109 = .ok (.goto (-23), 3) := by decide +kernel
theorem d_Mo_sheet_112 : decode b_Mo_sheet 112 = .ok (.aload_n 0, 1) := by decide +kernel
theorem d_Mo_sheet_113 : decode b_Mo_sheet 113 = .ok (.getfield 51, 3) := by decide +kernel
theorem d_Mo_sheet_116 : decode b_Mo_sheet 116 = .ok (.iload_n 1, 1) := by decide +kernel
theorem d_Mo_sheet_117 : decode b_Mo_sheet 117 = .ok (.iaload, 1) := by decide +kernel
theorem d_Mo_sheet_118 : decode b_Mo_sheet 118 = .ok (.ireturn, 1) := by decide +kernel
theorem d_Mo_write_0 : decode b_Mo_write 0 = .ok (.iload_n 1, 1) := by decide +kernel
theorem d_Mo_write_1 : decode b_Mo_write 1 = .ok (.invokestatic 211, 3) := by decide +kernel
theorem d_Mo_write_4 : decode b_Mo_write 4 = .ok (.ifCond .ne 10, 3) := by decide +kernel
theorem d_Mo_write_7 : decode b_Mo_write 7 = .ok (.aload_n 0, 1) := by decide +kernel
theorem d_Mo_write_8 : decode b_Mo_write 8 = .ok (.ldc 60, 2) := by decide +kernel
theorem d_Mo_write_10 : decode b_Mo_write 10 = .ok (.invokevirtual 66, 3) := by decide +kernel
theorem d_Mo_write_13 : decode b_Mo_write 13 = .ok (.ireturn, 1) := by decide +kernel
theorem d_Mo_write_14 : decode b_Mo_write 14 = .ok (.aload_n 0, 1) := by decide +kernel
theorem d_Mo_write_15 : decode b_Mo_write 15 = .ok (.getfield 48, 3) := by decide +kernel
theorem d_Mo_write_18 : decode b_Mo_write 18 = .ok (.iload_n 1, 1) := by decide +kernel
theorem d_Mo_write_19 : decode b_Mo_write 19 = .ok (.iaload, 1) := by decide +kernel
theorem d_Mo_write_20 : decode b_Mo_write 20 = .ok (.ifCond .ne 10, 3) := by decide +kernel
theorem d_Mo_write_23 : decode b_Mo_write 23 = .ok (.aload_n 0, 1) := by decide +kernel
theorem d_Mo_write_24 : decode b_Mo_write 24 = .ok (.ldc 214, 2) := by decide +kernel
theorem d_Mo_write_26 : decode b_Mo_write 26 = .ok (.invokevirtual 66, 3) := by decide +kernel
theorem d_Mo_write_29 : decode b_Mo_write 29 = .ok (.ireturn, 1) := by decide +kernel
theorem d_Mo_write_30 : decode b_Mo_write 30 = .ok (.iload_n 2, 1) := by decide +kernel
theorem d_Mo_write_31 : decode b_Mo_write 31 = .ok (.iconst 0, 1) := by decide +kernel
theorem d_Mo_write_32 : decode b_Mo_write 32 = .ok (.aload_n 0, 1) := by decide +kernel
theorem d_Mo_write_33 : decode b_Mo_write 33 = .ok (.getfield 51, 3) := by decide +kernel
theorem d_Mo_write_36 : decode b_Mo_write 36 = .ok (.iload_n 1, 1) := by decide +kernel
theorem d_Mo_write_37 : decode b_Mo_write 37 = .ok (.iaload, 1) := by decide +kernel
theorem d_Mo_write_38 : decode b_Mo_write 38 = .ok (.iconst 1, 1) := by decide +kernel
theorem d_Mo_write_39 : decode b_Mo_write 39 = .ok (.isub, 1) := by decide +kernel
theorem d_Mo_write_40 : decode b_Mo_write 40 = .ok (.invokestatic 70, 3) := by decide +kernel
theorem d_Mo_write_43 : decode b_Mo_write 43 = .ok (.ifCond .ne 10, 3) := by decide +kernel
theorem d_Mo_write_46 : decode b_Mo_write 46 = .ok (.aload_n 0, 1) := by decide +kernel
theorem d_Mo_write_47 : decode b_Mo_write 47 = .ok (.ldc 60, 2) := by decide +kernel
theorem d_Mo_write_49 : decode b_Mo_write 49 = .ok (.invokevirtual 66, 3) := by decide +kernel
theorem d_Mo_write_52 : decode b_Mo_write 52 = .ok (.ireturn, 1) := by decide +kernel
theorem d_Mo_write_53 : decode b_Mo_write 53 = .ok (.aload_n 0, 1) := by decide +kernel
theorem d_Mo_write_54 : decode b_Mo_write 54 = .ok (.getfield 54, 3) := by decide +kernel
theorem d_Mo_write_57 : decode b_Mo_write 57 = .ok (.bipush 40, 2) := by decide +kernel
theorem d_Mo_write_59 : decode b_Mo_write 59 = .ok (.iload_n 1, 1) := by decide +kernel
theorem d_Mo_write_60 : decode b_Mo_write 60 = .ok (.imul, 1) := by decide +kernel
theorem d_Mo_write_61 : decode b_Mo_write 61 = .ok (.iload_n 2, 1) := by decide +kernel
theorem d_Mo_write_62 : decode b_Mo_write 62 = .ok (.iadd, 1) := by decide +kernel
theorem d_Mo_write_63 : decode b_Mo_write 63 = .ok (.iload_n 3, 1) := by decide +kernel
theorem d_Mo_write_64 : decode b_Mo_write 64 = .ok (.aload_n 0, 1) := by decide +kernel
theorem d_Mo_write_65 : decode b_Mo_write 65 = .ok (.getfield 48, 3) := by decide +kernel
theorem d_Mo_write_68 : decode b_Mo_write 68 = .ok (.iload_n 1, 1) := by decide +kernel
theorem d_Mo_write_69 : decode b_Mo_write 69 = .ok (.iaload, 1) := by decide +kernel
theorem d_Mo_write_70 : decode b_Mo_write 70 = .ok (.invokestatic 319, 3) := by decide +kernel
theorem d_Mo_write_73 : decode b_Mo_write 73 = .ok (.iastore, 1) := by decide +kernel
theorem d_Mo_write_74 : decode b_Mo_write 74 = .ok (.iconst 1, 1) := by decide +kernel
theorem d_Mo_write_75 : decode b_Mo_write 75 = .ok (.ireturn, 1) := by decide +kernel
theorem d_Mo_copy_0 : decode b_Mo_copy 0 = .ok (.iload_n 1, 1) := by decide +kernel
theorem d_Mo_copy_1 : decode b_Mo_copy 1 = .ok (.invokestatic 211, 3) := by decide +kernel
theorem d_Mo_copy_4 : decode b_Mo_copy 4 = .ok (.ifCond .eq 10, 3) := by decide +kernel
theorem d_Mo_copy_7 : decode b_Mo_copy 7 = .ok (.iload_n 3, 1) := by decide +kernel
theorem d_Mo_copy_8 : decode b_Mo_copy 8 = .ok (.invokestatic 211, 3) := by decide +kernel
theorem d_Mo_copy_11 : decode b_Mo_copy 11 = .ok (.ifCond .ne 10, 3) := by decide +kernel
theorem d_Mo_copy_14 : decode b_Mo_copy 14 = .ok (.aload_n 0, 1) := by decide +kernel
theorem d_Mo_copy_15 : decode b_Mo_copy 15 = .ok (.ldc 60, 2) := by decide +kernel
theorem d_Mo_copy_17 : decode b_Mo_copy 17 = .ok (.invokevirtual 66, 3) := by decide +kernel
theorem d_Mo_copy_20 : decode b_Mo_copy 20 = .ok (.ireturn, 1) := by decide +kernel
theorem d_Mo_copy_21 : decode b_Mo_copy 21 = .ok (.aload_n 0, 1) := by decide +kernel
theorem d_Mo_copy_22 : decode b_Mo_copy 22 = .ok (.getfield 48, 3) := by decide +kernel
theorem d_Mo_copy_25 : decode b_Mo_copy 25 = .ok (.iload_n 1, 1) := by decide +kernel
theorem d_Mo_copy_26 : decode b_Mo_copy 26 = .ok (.iaload, 1) := by decide +kernel
theorem d_Mo_copy_27 : decode b_Mo_copy 27 = .ok (.ifCond .eq 12, 3) := by decide +kernel
theorem d_Mo_copy_30 : decode b_Mo_copy 30 = .ok (.aload_n 0, 1) := by decide +kernel
theorem d_Mo_copy_31 : decode b_Mo_copy 31 = .ok (.getfield 48, 3) := by decide +kernel
theorem d_Mo_copy_34 : decode b_Mo_copy 34 = .ok (.iload_n 3, 1) := by decide +kernel
theorem d_Mo_copy_35 : decode b_Mo_copy 35 = .ok (.iaload, 1) := by decide +kernel
theorem d_Mo_copy_36 : decode b_Mo_copy 36 = .ok (.ifCond .ne 10, 3) := by decide +kernel
theorem d_Mo_copy_39 : decode b_Mo_copy 39 = .ok (.aload_n 0, 1) := by decide +kernel
theorem d_Mo_copy_40 : decode b_Mo_copy 40 = .ok (.ldc 214, 2) := by decide +kernel
theorem d_Mo_copy_42 : decode b_Mo_copy 42 = .ok (.invokevirtual 66, 3) := by decide +kernel
theorem d_Mo_copy_45 : decode b_Mo_copy 45 = .ok (.ireturn, 1) := by decide +kernel
theorem d_Mo_copy_46 : decode b_Mo_copy 46 = .ok (.aload_n 0, 1) := by decide +kernel
theorem d_Mo_copy_47 : decode b_Mo_copy 47 = .ok (.getfield 48, 3) := by decide +kernel
theorem d_Mo_copy_50 : decode b_Mo_copy 50 = .ok (.iload_n 1, 1) := by decide +kernel
theorem d_Mo_copy_51 : decode b_Mo_copy 51 = .ok (.iaload, 1) := by decide +kernel
theorem d_Mo_copy_52 : decode b_Mo_copy 52 = .ok (.aload_n 0, 1) := by decide +kernel
theorem d_Mo_copy_53 : decode b_Mo_copy 53 = .ok (.getfield 48, 3) := by decide +kernel
theorem d_Mo_copy_56 : decode b_Mo_copy 56 = .ok (.iload_n 3, 1) := by decide +kernel
theorem d_Mo_copy_57 : decode b_Mo_copy 57 = .ok (.iaload, 1) := by decide +kernel
theorem d_Mo_copy_58 : decode b_Mo_copy 58 = .ok (.if_icmp .eq 11, 3) := by decide +kernel
theorem d_Mo_copy_61 : decode b_Mo_copy 61 = .ok (.aload_n 0, 1) := by decide +kernel
theorem d_Mo_copy_62 : decode b_Mo_copy 62 = .ok (.ldc_w 317, 3) := by decide +kernel
theorem d_Mo_copy_65 : decode b_Mo_copy 65 = .ok (.invokevirtual 66, 3) := by decide +kernel
theorem d_Mo_copy_68 : decode b_Mo_copy 68 = .ok (.ireturn, 1) := by decide +kernel
theorem d_Mo_copy_69 : decode b_Mo_copy 69 = .ok (.iload_n 2, 1) := by decide +kernel
theorem d_Mo_copy_70 : decode b_Mo_copy 70 = .ok (.ifCond .lt 48, 3) := by decide +kernel
theorem d_Mo_copy_73 : decode b_Mo_copy 73 = .ok (.iload 4, 2) := by decide +kernel
theorem d_Mo_copy_75 : decode b_Mo_copy 75 = .ok (.ifCond .lt 43, 3) := by decide +kernel
theorem d_Mo_copy_78 : decode b_Mo_copy 78 = .ok (.iload 5, 2) := by decide +kernel
theorem d_Mo_copy_80 : decode b_Mo_copy 80 = .ok (.ifCond .lt 38, 3) := by decide +kernel
theorem d_Mo_copy_83 : decode b_Mo_copy 83 = .ok (.iload_n 2, 1) := by decide +kernel
theorem d_Mo_copy_84 : decode b_Mo_copy 84 = .ok (.i2l, 1) := by decide +kernel
theorem d_Mo_copy_85 : decode b_Mo_copy 85 = .ok (.iload 5, 2) := by decide +kernel
theorem d_Mo_copy_87 : decode b_Mo_copy 87 = .ok (.i2l, 1) := by decide +kernel
theorem d_Mo_copy_88 : decode b_Mo_copy 88 = .ok (.ladd, 1) := by decide +kernel
theorem d_Mo_copy_89 : decode b_Mo_copy 89 = .ok (.aload_n 0, 1) := by decide +kernel
theorem d_Mo_copy_90 : decode b_Mo_copy 90 = .ok (.getfield 51, 3) := by decide +kernel
theorem d_Mo_copy_93 : decode b_Mo_copy 93 = .ok (.iload_n 1, 1) := by decide +kernel
theorem d_Mo_copy_94 : decode b_Mo_copy 94 = .ok (.iaload, 1) := by decide +kernel
theorem d_Mo_copy_95 : decode b_Mo_copy 95 = .ok (.i2l, 1) := by decide +kernel
theorem d_Mo_copy_96 : decode b_Mo_copy 96 = .ok (.lcmp, 1) := by decide +kernel
theorem d_Mo_copy_97 : decode b_Mo_copy 97 = .ok (.ifCond .gt 21, 3) := by decide +kernel
theorem d_Mo_copy_100 : decode b_Mo_copy 100 = .ok (.iload 4, 2) := by decide +kernel
theorem d_Mo_copy_102 : decode b_Mo_copy 102 = .ok (.i2l, 1) := by decide +kernel
theorem d_Mo_copy_103 : decode b_Mo_copy 103 = .ok (.iload 5, 2) := by decide +kernel
theorem d_Mo_copy_105 : decode b_Mo_copy 105 = .ok (.i2l, 1) := by decide +kernel
theorem d_Mo_copy_106 : decode b_Mo_copy 106 = .ok (.ladd, 1) := by decide +kernel
theorem d_Mo_copy_107 : decode b_Mo_copy 107 = .ok (.aload_n 0, 1) := by decide +kernel
theorem d_Mo_copy_108 : decode b_Mo_copy 108 = .ok (.getfield 51, 3) := by decide +kernel
theorem d_Mo_copy_111 : decode b_Mo_copy 111 = .ok (.iload_n 3, 1) := by decide +kernel
theorem d_Mo_copy_112 : decode b_Mo_copy 112 = .ok (.iaload, 1) := by decide +kernel
theorem d_Mo_copy_113 : decode b_Mo_copy 113 = .ok (.i2l, 1) := by decide +kernel
theorem d_Mo_copy_114 : decode b_Mo_copy 114 = .ok (.lcmp, 1) := by decide +kernel
theorem d_Mo_copy_115 : decode b_Mo_copy 115 = .ok (.ifCond .le 10, 3) := by decide +kernel
theorem d_Mo_copy_118 : decode b_Mo_copy 118 = .ok (.aload_n 0, 1) := by decide +kernel
theorem d_Mo_copy_119 : decode b_Mo_copy 119 = .ok (.ldc 60, 2) := by decide +kernel
theorem d_Mo_copy_121 : decode b_Mo_copy 121 = .ok (.invokevirtual 66, 3) := by decide +kernel
theorem d_Mo_copy_124 : decode b_Mo_copy 124 = .ok (.ireturn, 1) := by decide +kernel
theorem d_Mo_copy_125 : decode b_Mo_copy 125 = .ok (.iconst 0, 1) := by decide +kernel
theorem d_Mo_copy_126 : decode b_Mo_copy 126 = .ok (.istore 6, 2) := by decide +kernel
theorem d_Mo_copy_128 : decode b_Mo_copy 128 = .ok (.iload 6, 2) := by decide +kernel
theorem d_Mo_copy_130 : decode b_Mo_copy 130 = .ok (.iload 5, 2) := by decide +kernel
theorem d_Mo_copy_132 : decode b_Mo_copy 132 = .ok (.if_icmp .ge 30, 3) := by decide +kernel
theorem d_Mo_copy_135 : decode b_Mo_copy 135 = .ok (.aload_n 0, 1) := by decide +kernel
theorem d_Mo_copy_136 : decode b_Mo_copy 136 = .ok (.getfield 57, 3) := by decide +kernel
theorem d_Mo_copy_139 : decode b_Mo_copy 139 = .ok (.iload 6, 2) := by decide +kernel
theorem d_Mo_copy_141 : decode b_Mo_copy 141 = .ok (.aload_n 0, 1) := by decide +kernel
theorem d_Mo_copy_142 : decode b_Mo_copy 142 = .ok (.getfield 54, 3) := by decide +kernel
theorem d_Mo_copy_145 : decode b_Mo_copy 145 = .ok (.bipush 40, 2) := by decide +kernel
theorem d_Mo_copy_147 : decode b_Mo_copy 147 = .ok (.iload_n 1, 1) := by decide +kernel
theorem d_Mo_copy_148 : decode b_Mo_copy 148 = .ok (.imul, 1) := by decide +kernel
theorem d_Mo_copy_149 : decode b_Mo_copy 149 = .ok (.iload_n 2, 1) := by decide +kernel
theorem d_Mo_copy_150 : decode b_Mo_copy 150 = .ok (.iadd, 1) := by decide +kernel
theorem d_Mo_copy_151 : decode b_Mo_copy 151 = .ok (.iload 6, 2) := by decide +kernel
theorem d_Mo_copy_153 : decode b_Mo_copy 153 = .ok (.iadd, 1) := by decide +kernel
theorem d_Mo_copy_154 : decode b_Mo_copy 154 = .ok (.iaload, 1) := by decide +kernel
theorem d_Mo_copy_155 : decode b_Mo_copy 155 = .ok (.iastore, 1) := by decide +kernel
theorem d_Mo_copy_156 : decode b_Mo_copy 156 = .ok (.iinc 6 1, 3) := by decide +kernel
theorem d_Mo_copy_159 : decode b_Mo_copy 159 = .ok (.goto (-31), 3) := by decide +kernel
theorem d_Mo_copy_162 : decode b_Mo_copy 162 = .ok (.iconst 0, 1) := by decide +kernel
theorem d_Mo_copy_163 : decode b_Mo_copy 163 = .ok (.istore 6, 2) := by decide +kernel
theorem d_Mo_copy_165 : decode b_Mo_copy 165 = .ok (.iload 6, 2) := by decide +kernel
theorem d_Mo_copy_167 : decode b_Mo_copy 167 = .ok (.iload 5, 2) := by decide +kernel
theorem d_Mo_copy_169 : decode b_Mo_copy 169 = .ok (.if_icmp .ge 31, 3) := by decide +kernel
theorem d_Mo_copy_172 : decode b_Mo_copy 172 = .ok (.aload_n 0, 1) := by decide +kernel
theorem d_Mo_copy_173 : decode b_Mo_copy 173 = .ok (.getfield 54, 3) := by decide +kernel
theorem d_Mo_copy_176 : decode b_Mo_copy 176 = .ok (.bipush 40, 2) := by decide +kernel
theorem d_Mo_copy_178 : decode b_Mo_copy 178 = .ok (.iload_n 3, 1) := by decide +kernel
theorem d_Mo_copy_179 : decode b_Mo_copy 179 = .ok (.imul, 1) := by decide +kernel
theorem d_Mo_copy_180 : decode b_Mo_copy 180 = .ok (.iload 4, 2) := by decide +kernel
theorem d_Mo_copy_182 : decode b_Mo_copy 182 = .ok (.iadd, 1) := by decide +kernel
theorem d_Mo_copy_183 : decode b_Mo_copy 183 = .ok (.iload 6, 2) := by decide +kernel
theorem d_Mo_copy_185 : decode b_Mo_copy 185 = .ok (.iadd, 1) := by decide +kernel
theorem d_Mo_copy_186 : decode b_Mo_copy 186 = .ok (.aload_n 0, 1) := by decide +kernel
theorem d_Mo_copy_187 : decode b_Mo_copy 187 = .ok (.getfield 57, 3) := by decide +kernel
theorem d_Mo_copy_190 : decode b_Mo_copy 190 = .ok (.iload 6, 2) := by decide +kernel
theorem d_Mo_copy_192 : decode b_Mo_copy 192 = .ok (.iaload, 1) := by decide +kernel
theorem d_Mo_copy_193 : decode b_Mo_copy 193 = .ok (.iastore, 1) := by decide +kernel
theorem d_Mo_copy_194 : decode b_Mo_copy 194 = .ok (.iinc 6 1, 3) := by decide +kernel
theorem d_Mo_copy_197 : decode b_Mo_copy 197 = .ok (.goto (-32), 3) := by decide +kernel
theorem d_Mo_copy_200 : decode b_Mo_copy 200 = .ok (.iload 5, 2) := by decide +kernel
theorem d_Mo_copy_202 : decode b_Mo_copy 202 = .ok (.ireturn, 1) := by decide +kernel
theorem d_Mo_above_0 : decode b_Mo_above 0 = .ok (.iload_n 0, 1) := by decide +kernel
theorem d_Mo_above_1 : decode b_Mo_above 1 = .ok (.ifCond .ne 7, 3) := by decide +kernel
theorem d_Mo_above_4 : decode b_Mo_above 4 = .ok (.iconst (-1), 1) := by decide +kernel
theorem d_Mo_above_5 : decode b_Mo_above 5 = .ok (.goto 32, 3) := by decide +kernel
theorem d_Mo_above_8 : decode b_Mo_above 8 = .ok (.iload_n 0, 1) := by decide +kernel
theorem d_Mo_above_9 : decode b_Mo_above 9 = .ok (.iconst 3, 1) := by decide +kernel
theorem d_Mo_above_10 : decode b_Mo_above 10 = .ok (.if_icmp .ne 7, 3) := by decide +kernel
theorem d_Mo_above_13 : decode b_Mo_above 13 = .ok (.iconst 2, 1) := by decide +kernel
theorem d_Mo_above_14 : decode b_Mo_above 14 = .ok (.goto 23, 3) := by decide +kernel
theorem d_Mo_above_17 : decode b_Mo_above 17 = .ok (.iload_n 0, 1) := by decide +kernel
theorem d_Mo_above_18 : decode b_Mo_above 18 = .ok (.iconst 4, 1) := by decide +kernel
theorem d_Mo_above_19 : decode b_Mo_above 19 = .ok (.if_icmp .ne 7, 3) := by decide +kernel
theorem d_Mo_above_22 : decode b_Mo_above 22 = .ok (.iconst 3, 1) := by decide +kernel
theorem d_Mo_above_23 : decode b_Mo_above 23 = .ok (.goto 14, 3) := by decide +kernel
theorem d_Mo_above_26 : decode b_Mo_above 26 = .ok (.iload_n 0, 1) := by decide +kernel
theorem d_Mo_above_27 : decode b_Mo_above 27 = .ok (.bipush 6, 2) := by decide +kernel
theorem d_Mo_above_29 : decode b_Mo_above 29 = .ok (.if_icmp .ne 7, 3) := by decide +kernel
theorem d_Mo_above_32 : decode b_Mo_above 32 = .ok (.iconst 1, 1) := by decide +kernel
theorem d_Mo_above_33 : decode b_Mo_above 33 = .ok (.goto 4, 3) := by decide +kernel
theorem d_Mo_above_36 : decode b_Mo_above 36 = .ok (.iconst 0, 1) := by decide +kernel
theorem d_Mo_above_37 : decode b_Mo_above 37 = .ok (.ireturn, 1) := by decide +kernel
theorem d_Mo_isUnder_0 : decode b_Mo_isUnder 0 = .ok (.iload_n 0, 1) := by decide +kernel
theorem d_Mo_isUnder_1 : decode b_Mo_isUnder 1 = .ok (.istore_n 2, 1) := by decide +kernel
theorem d_Mo_isUnder_2 : decode b_Mo_isUnder 2 = .ok (.iload_n 2, 1) := by decide +kernel
theorem d_Mo_isUnder_3 : decode b_Mo_isUnder 3 = .ok (.ifCond .lt 16, 3) := by decide +kernel
theorem d_Mo_isUnder_6 : decode b_Mo_isUnder 6 = .ok (.iload_n 2, 1) := by decide +kernel
theorem d_Mo_isUnder_7 : decode b_Mo_isUnder 7 = .ok (.iload_n 1, 1) := by decide +kernel
theorem d_Mo_isUnder_8 : decode b_Mo_isUnder 8 = .ok (.if_icmp .eq 11, 3) := by decide +kernel
theorem d_Mo_isUnder_11 : decode b_Mo_isUnder 11 = .ok (.iload_n 2, 1) := by decide +kernel
theorem d_Mo_isUnder_12 : decode b_Mo_isUnder 12 = .ok (.invokestatic 322, 3) := by decide +kernel
theorem d_Mo_isUnder_15 : decode b_Mo_isUnder 15 = .ok (.istore_n 2, 1) := by decide +kernel
theorem d_Mo_isUnder_16 : decode b_Mo_isUnder 16 = .ok (.goto (-14), 3) := by decide +kernel
theorem d_Mo_isUnder_19 : decode b_Mo_isUnder 19 = .ok (.iload_n 2, 1) := by decide +kernel
theorem d_Mo_isUnder_20 : decode b_Mo_isUnder 20 = .ok (.ifCond .lt 7, 3) := by decide +kernel
theorem d_Mo_isUnder_23 : decode b_Mo_isUnder 23 = .ok (.iconst 1, 1) := by decide +kernel
theorem d_Mo_isUnder_24 : decode b_Mo_isUnder 24 = .ok (.goto 4, 3) := by decide +kernel
theorem d_Mo_isUnder_27 : decode b_Mo_isUnder 27 = .ok (.iconst 0, 1) := by decide +kernel
theorem d_Mo_isUnder_28 : decode b_Mo_isUnder 28 = .ok (.ireturn, 1) := by decide +kernel
theorem d_Mo_load_0 : decode b_Mo_load 0 = .ok (.aload_n 0, 1) := by decide +kernel
theorem d_Mo_load_1 : decode b_Mo_load 1 = .ok (.iload_n 1, 1) := by decide +kernel
theorem d_Mo_load_2 : decode b_Mo_load 2 = .ok (.iconst 1, 1) := by decide +kernel
theorem d_Mo_load_3 : decode b_Mo_load 3 = .ok (.invokevirtual 218, 3) := by decide +kernel
theorem d_Mo_load_6 : decode b_Mo_load 6 = .ok (.ifCond .eq 14, 3) := by decide +kernel
theorem d_Mo_load_9 : decode b_Mo_load 9 = .ok (.aload_n 0, 1) := by decide +kernel
theorem d_Mo_load_10 : decode b_Mo_load 10 = .ok (.aload_n 0, 1) := by decide +kernel
theorem d_Mo_load_11 : decode b_Mo_load 11 = .ok (.iload_n 1, 1) := by decide +kernel
theorem d_Mo_load_12 : decode b_Mo_load 12 = .ok (.iconst 1, 1) := by decide +kernel
theorem d_Mo_load_13 : decode b_Mo_load 13 = .ok (.invokevirtual 218, 3) := by decide +kernel
theorem d_Mo_load_16 : decode b_Mo_load 16 = .ok (.invokevirtual 66, 3) := by decide +kernel
theorem d_Mo_load_19 : decode b_Mo_load 19 = .ok (.ireturn, 1) := by decide +kernel
theorem d_Mo_load_20 : decode b_Mo_load 20 = .ok (.iconst 0, 1) := by decide +kernel
theorem d_Mo_load_21 : decode b_Mo_load 21 = .ok (.istore_n 2, 1) := by decide +kernel
theorem d_Mo_load_22 : decode b_Mo_load 22 = .ok (.iload_n 2, 1) := by decide +kernel
theorem d_Mo_load_23 : decode b_Mo_load 23 = .ok (.aload_n 0, 1) := by decide +kernel
theorem d_Mo_load_24 : decode b_Mo_load 24 = .ok (.getfield 51, 3) := by decide +kernel
theorem d_Mo_load_27 : decode b_Mo_load 27 = .ok (.iload_n 1, 1) := by decide +kernel
theorem d_Mo_load_28 : decode b_Mo_load 28 = .ok (.iaload, 1) := by decide +kernel
theorem d_Mo_load_29 : decode b_Mo_load 29 = .ok (.if_icmp .ge 55, 3) := by decide +kernel
theorem d_Mo_load_32 : decode b_Mo_load 32 = .ok (.aload_n 0, 1) := by decide +kernel
theorem d_Mo_load_33 : decode b_Mo_load 33 = .ok (.iload_n 2, 1) := by decide +kernel
theorem d_Mo_load_34 : decode b_Mo_load 34 = .ok (.invokevirtual 121, 3) := by decide +kernel
theorem d_Mo_load_37 : decode b_Mo_load 37 = .ok (.ifCond .eq 47, 3) := by decide +kernel
theorem d_Mo_load_40 : decode b_Mo_load 40 = .ok (.aload_n 0, 1) := by decide +kernel
theorem d_Mo_load_41 : decode b_Mo_load 41 = .ok (.getfield 54, 3) := by decide +kernel
theorem d_Mo_load_44 : decode b_Mo_load 44 = .ok (.bipush 40, 2) := by decide +kernel
theorem d_Mo_load_46 : decode b_Mo_load 46 = .ok (.iload_n 1, 1) := by decide +kernel
theorem d_Mo_load_47 : decode b_Mo_load 47 = .ok (.imul, 1) := by decide +kernel
theorem d_Mo_load_48 : decode b_Mo_load 48 = .ok (.iload_n 2, 1) := by decide +kernel
theorem d_Mo_load_49 : decode b_Mo_load 49 = .ok (.iadd, 1) := by decide +kernel
theorem d_Mo_load_50 : decode b_Mo_load 50 = .ok (.iaload, 1) := by decide +kernel
theorem d_Mo_load_51 : decode b_Mo_load 51 = .ok (.invokestatic 74, 3) := by decide +kernel
theorem d_Mo_load_54 : decode b_Mo_load 54 = .ok (.ifCond .eq 30, 3) := by decide +kernel
theorem d_Mo_load_57 : decode b_Mo_load 57 = .ok (.aload_n 0, 1) := by decide +kernel
theorem d_Mo_load_58 : decode b_Mo_load 58 = .ok (.getfield 9, 3) := by decide +kernel
theorem d_Mo_load_61 : decode b_Mo_load 61 = .ok (.iload_n 2, 1) := by decide +kernel
theorem d_Mo_load_62 : decode b_Mo_load 62 = .ok (.iconst 3, 1) := by decide +kernel
theorem d_Mo_load_63 : decode b_Mo_load 63 = .ok (.invokestatic 88, 3) := by decide +kernel
theorem d_Mo_load_66 : decode b_Mo_load 66 = .ok (.aload_n 0, 1) := by decide +kernel
theorem d_Mo_load_67 : decode b_Mo_load 67 = .ok (.getfield 54, 3) := by decide +kernel
theorem d_Mo_load_70 : decode b_Mo_load 70 = .ok (.bipush 40, 2) := by decide +kernel
theorem d_Mo_load_72 : decode b_Mo_load 72 = .ok (.iload_n 1, 1) := by decide +kernel
theorem d_Mo_load_73 : decode b_Mo_load 73 = .ok (.imul, 1) := by decide +kernel
theorem d_Mo_load_74 : decode b_Mo_load 74 = .ok (.iload_n 2, 1) := by decide +kernel
theorem d_Mo_load_75 : decode b_Mo_load 75 = .ok (.iadd, 1) := by decide +kernel
theorem d_Mo_load_76 : decode b_Mo_load 76 = .ok (.iaload, 1) := by decide +kernel
theorem d_Mo_load_77 : decode b_Mo_load 77 = .ok (.iastore, 1) := by decide +kernel
theorem d_Mo_load_78 : decode b_Mo_load 78 = .ok (.iinc 2 1, 3) := by decide +kernel
theorem d_Mo_load_81 : decode b_Mo_load 81 = .ok (.goto (-59), 3) := by decide +kernel
theorem d_Mo_load_84 : decode b_Mo_load 84 = .ok (.iload_n 2, 1) := by decide +kernel
theorem d_Mo_load_85 : decode b_Mo_load 85 = .ok (.ireturn, 1) := by decide +kernel
theorem d_Mo_judge_0 : decode b_Mo_judge 0 = .ok (.aload_n 0, 1) := by decide +kernel
theorem d_Mo_judge_1 : decode b_Mo_judge 1 = .ok (.iload_n 1, 1) := by decide +kernel
theorem d_Mo_judge_2 : decode b_Mo_judge 2 = .ok (.iconst 1, 1) := by decide +kernel
theorem d_Mo_judge_3 : decode b_Mo_judge 3 = .ok (.invokevirtual 218, 3) := by decide +kernel
theorem d_Mo_judge_6 : decode b_Mo_judge 6 = .ok (.ifCond .eq 14, 3) := by decide +kernel
theorem d_Mo_judge_9 : decode b_Mo_judge 9 = .ok (.aload_n 0, 1) := by decide +kernel
theorem d_Mo_judge_10 : decode b_Mo_judge 10 = .ok (.aload_n 0, 1) := by decide +kernel
theorem d_Mo_judge_11 : decode b_Mo_judge 11 = .ok (.iload_n 1, 1) := by decide +kernel
theorem d_Mo_judge_12 : decode b_Mo_judge 12 = .ok (.iconst 1, 1) := by decide +kernel
theorem d_Mo_judge_13 : decode b_Mo_judge 13 = .ok (.invokevirtual 218, 3) := by decide +kernel
theorem d_Mo_judge_16 : decode b_Mo_judge 16 = .ok (.invokevirtual 66, 3) := by decide +kernel
theorem d_Mo_judge_19 : decode b_Mo_judge 19 = .ok (.ireturn, 1) := by decide +kernel
theorem d_Mo_judge_20 : decode b_Mo_judge 20 = .ok (.iconst 0, 1) := by decide +kernel
theorem d_Mo_judge_21 : decode b_Mo_judge 21 = .ok (.istore_n 2, 1) := by decide +kernel
theorem d_Mo_judge_22 : decode b_Mo_judge 22 = .ok (.iload_n 2, 1) := by decide +kernel
theorem d_Mo_judge_23 : decode b_Mo_judge 23 = .ok (.aload_n 0, 1) := by decide +kernel
theorem d_Mo_judge_24 : decode b_Mo_judge 24 = .ok (.getfield 51, 3) := by decide +kernel
theorem d_Mo_judge_27 : decode b_Mo_judge 27 = .ok (.iload_n 1, 1) := by decide +kernel
theorem d_Mo_judge_28 : decode b_Mo_judge 28 = .ok (.iaload, 1) := by decide +kernel
theorem d_Mo_judge_29 : decode b_Mo_judge 29 = .ok (.if_icmp .ge 37, 3) := by decide +kernel
theorem d_Mo_judge_32 : decode b_Mo_judge 32 = .ok (.aload_n 0, 1) := by decide +kernel
theorem d_Mo_judge_33 : decode b_Mo_judge 33 = .ok (.iload_n 2, 1) := by decide +kernel
theorem d_Mo_judge_34 : decode b_Mo_judge 34 = .ok (.invokevirtual 121, 3) := by decide +kernel
theorem d_Mo_judge_37 : decode b_Mo_judge 37 = .ok (.ifCond .eq 29, 3) := by decide +kernel
theorem d_Mo_judge_40 : decode b_Mo_judge 40 = .ok (.aload_n 0, 1) := by decide +kernel
theorem d_Mo_judge_41 : decode b_Mo_judge 41 = .ok (.getfield 54, 3) := by decide +kernel
theorem d_Mo_judge_44 : decode b_Mo_judge 44 = .ok (.bipush 40, 2) := by decide +kernel
theorem d_Mo_judge_46 : decode b_Mo_judge 46 = .ok (.iload_n 1, 1) := by decide +kernel
theorem d_Mo_judge_47 : decode b_Mo_judge 47 = .ok (.imul, 1) := by decide +kernel
theorem d_Mo_judge_48 : decode b_Mo_judge 48 = .ok (.iload_n 2, 1) := by decide +kernel
theorem d_Mo_judge_49 : decode b_Mo_judge 49 = .ok (.iadd, 1) := by decide +kernel
theorem d_Mo_judge_50 : decode b_Mo_judge 50 = .ok (.iaload, 1) := by decide +kernel
theorem d_Mo_judge_51 : decode b_Mo_judge 51 = .ok (.aload_n 0, 1) := by decide +kernel
theorem d_Mo_judge_52 : decode b_Mo_judge 52 = .ok (.iload_n 2, 1) := by decide +kernel
theorem d_Mo_judge_53 : decode b_Mo_judge 53 = .ok (.iconst 2, 1) := by decide +kernel
theorem d_Mo_judge_54 : decode b_Mo_judge 54 = .ok (.invokevirtual 101, 3) := by decide +kernel
theorem d_Mo_judge_57 : decode b_Mo_judge 57 = .ok (.if_icmp .ne 9, 3) := by decide +kernel
theorem d_Mo_judge_60 : decode b_Mo_judge 60 = .ok (.iinc 2 1, 3) := by decide +kernel
theorem d_Mo_judge_63 : decode b_Mo_judge 63 = .ok (.goto (-41), 3) := by decide +kernel
theorem d_Mo_judge_66 : decode b_Mo_judge 66 = .ok (.iload_n 2, 1) := by decide +kernel
theorem d_Mo_judge_67 : decode b_Mo_judge 67 = .ok (.aload_n 0, 1) := by decide +kernel
theorem d_Mo_judge_68 : decode b_Mo_judge 68 = .ok (.getfield 51, 3) := by decide +kernel
theorem d_Mo_judge_71 : decode b_Mo_judge 71 = .ok (.iload_n 1, 1) := by decide +kernel
theorem d_Mo_judge_72 : decode b_Mo_judge 72 = .ok (.iaload, 1) := by decide +kernel
theorem d_Mo_judge_73 : decode b_Mo_judge 73 = .ok (.if_icmp .ne 7, 3) := by decide +kernel
theorem d_Mo_judge_76 : decode b_Mo_judge 76 = .ok (.iconst 0, 1) := by decide +kernel
theorem d_Mo_judge_77 : decode b_Mo_judge 77 = .ok (.goto 6, 3) := by decide +kernel
theorem d_Mo_judge_80 : decode b_Mo_judge 80 = .ok (.iconst 1, 1) := by decide +kernel
theorem d_Mo_judge_81 : decode b_Mo_judge 81 = .ok (.iload_n 2, 1) := by decide +kernel
theorem d_Mo_judge_82 : decode b_Mo_judge 82 = .ok (.iadd, 1) := by decide +kernel
theorem d_Mo_judge_83 : decode b_Mo_judge 83 = .ok (.ireturn, 1) := by decide +kernel
theorem d_Mo_image_0 : decode b_Mo_image 0 = .ok (.aload_n 0, 1) := by decide +kernel
theorem d_Mo_image_1 : decode b_Mo_image 1 = .ok (.getfield 9, 3) := by decide +kernel
theorem d_Mo_image_4 : decode b_Mo_image 4 = .ok (.aload_n 0, 1) := by decide +kernel
theorem d_Mo_image_5 : decode b_Mo_image 5 = .ok (.getfield 13, 3) := by decide +kernel
theorem d_Mo_image_8 : decode b_Mo_image 8 = .ok (.invokestatic 61, 3) := by decide +kernel
theorem d_Mo_image_11 : decode b_Mo_image 11 = .ok (.aload_n 0, 1) := by decide +kernel
theorem d_Mo_image_12 : decode b_Mo_image 12 = .ok (.iconst 1, 1) := by decide +kernel
theorem d_Mo_image_13 : decode b_Mo_image 13 = .ok (.putfield 325, 3) := by decide +kernel
theorem d_Mo_image_16 : decode b_Mo_image 16 = .ok (.iconst 1, 1) := by decide +kernel
theorem d_Mo_image_17 : decode b_Mo_image 17 = .ok (.ireturn, 1) := by decide +kernel
theorem d_Mo_undo_0 : decode b_Mo_undo 0 = .ok (.aload_n 0, 1) := by decide +kernel
theorem d_Mo_undo_1 : decode b_Mo_undo 1 = .ok (.getfield 325, 3) := by decide +kernel
theorem d_Mo_undo_4 : decode b_Mo_undo 4 = .ok (.ifCond .ne 10, 3) := by decide +kernel
theorem d_Mo_undo_7 : decode b_Mo_undo 7 = .ok (.aload_n 0, 1) := by decide +kernel
theorem d_Mo_undo_8 : decode b_Mo_undo 8 = .ok (.ldc 65, 2) := by decide +kernel
theorem d_Mo_undo_10 : decode b_Mo_undo 10 = .ok (.invokevirtual 66, 3) := by decide +kernel
theorem d_Mo_undo_13 : decode b_Mo_undo 13 = .ok (.ireturn, 1) := by decide +kernel
theorem d_Mo_undo_14 : decode b_Mo_undo 14 = .ok (.aload_n 0, 1) := by decide +kernel
theorem d_Mo_undo_15 : decode b_Mo_undo 15 = .ok (.getfield 13, 3) := by decide +kernel
theorem d_Mo_undo_18 : decode b_Mo_undo 18 = .ok (.aload_n 0, 1) := by decide +kernel
theorem d_Mo_undo_19 : decode b_Mo_undo 19 = .ok (.getfield 9, 3) := by decide +kernel
theorem d_Mo_undo_22 : decode b_Mo_undo 22 = .ok (.invokestatic 61, 3) := by decide +kernel
theorem d_Mo_undo_25 : decode b_Mo_undo 25 = .ok (.aload_n 0, 1) := by decide +kernel
theorem d_Mo_undo_26 : decode b_Mo_undo 26 = .ok (.getfield 9, 3) := by decide +kernel
theorem d_Mo_undo_29 : decode b_Mo_undo 29 = .ok (.iconst 0, 1) := by decide +kernel
theorem d_Mo_undo_30 : decode b_Mo_undo 30 = .ok (.iaload, 1) := by decide +kernel
theorem d_Mo_undo_31 : decode b_Mo_undo 31 = .ok (.ireturn, 1) := by decide +kernel
theorem d_Mo_tear_0 : decode b_Mo_tear 0 = .ok (.aload_n 0, 1) := by decide +kernel
theorem d_Mo_tear_1 : decode b_Mo_tear 1 = .ok (.getfield 325, 3) := by decide +kernel
theorem d_Mo_tear_4 : decode b_Mo_tear 4 = .ok (.ifCond .eq 7, 3) := by decide +kernel
theorem d_Mo_tear_7 : decode b_Mo_tear 7 = .ok (.iconst 1, 1) := by decide +kernel
theorem d_Mo_tear_8 : decode b_Mo_tear 8 = .ok (.goto 4, 3) := by decide +kernel
theorem d_Mo_tear_11 : decode b_Mo_tear 11 = .ok (.iconst 0, 1) := by decide +kernel
theorem d_Mo_tear_12 : decode b_Mo_tear 12 = .ok (.istore_n 1, 1) := by decide +kernel
theorem d_Mo_tear_13 : decode b_Mo_tear 13 = .ok (.aload_n 0, 1) := by decide +kernel
theorem d_Mo_tear_14 : decode b_Mo_tear 14 = .ok (.iconst 0, 1) := by decide +kernel
theorem d_Mo_tear_15 : decode b_Mo_tear 15 = .ok (.putfield 325, 3) := by decide +kernel
theorem d_Mo_tear_18 : decode b_Mo_tear 18 = .ok (.iload_n 1, 1) := by decide +kernel
theorem d_Mo_tear_19 : decode b_Mo_tear 19 = .ok (.ireturn, 1) := by decide +kernel
theorem d_Mo_count_0 : decode b_Mo_count 0 = .ok (.iconst 0, 1) := by decide +kernel
theorem d_Mo_count_1 : decode b_Mo_count 1 = .ok (.istore_n 2, 1) := by decide +kernel
theorem d_Mo_count_2 : decode b_Mo_count 2 = .ok (.iload_n 1, 1) := by decide +kernel
theorem d_Mo_count_3 : decode b_Mo_count 3 = .ok (.tableswitch 127 0 7 #[45, 52, 59, 66, 71, 79, 84, 91], 45) := by decide +kernel
theorem d_Mo_count_48 : decode b_Mo_count 48 = .ok (.aload_n 0, 1) := by decide +kernel
theorem d_Mo_count_49 : decode b_Mo_count 49 = .ok (.getfield 9, 3) := by decide +kernel
theorem d_Mo_count_52 : decode b_Mo_count 52 = .ok (.iconst 0, 1) := by decide +kernel
theorem d_Mo_count_53 : decode b_Mo_count 53 = .ok (.iaload, 1) := by decide +kernel
theorem d_Mo_count_54 : decode b_Mo_count 54 = .ok (.ireturn, 1) := by decide +kernel
theorem d_Mo_count_55 : decode b_Mo_count 55 = .ok (.aload_n 0, 1) := by decide +kernel
theorem d_Mo_count_56 : decode b_Mo_count 56 = .ok (.getfield 9, 3) := by decide +kernel
theorem d_Mo_count_59 : decode b_Mo_count 59 = .ok (.iconst 1, 1) := by decide +kernel
theorem d_Mo_count_60 : decode b_Mo_count 60 = .ok (.iaload, 1) := by decide +kernel
theorem d_Mo_count_61 : decode b_Mo_count 61 = .ok (.ireturn, 1) := by decide +kernel
theorem d_Mo_count_62 : decode b_Mo_count 62 = .ok (.aload_n 0, 1) := by decide +kernel
theorem d_Mo_count_63 : decode b_Mo_count 63 = .ok (.getfield 9, 3) := by decide +kernel
theorem d_Mo_count_66 : decode b_Mo_count 66 = .ok (.iconst 3, 1) := by decide +kernel
theorem d_Mo_count_67 : decode b_Mo_count 67 = .ok (.iaload, 1) := by decide +kernel
theorem d_Mo_count_68 : decode b_Mo_count 68 = .ok (.ireturn, 1) := by decide +kernel
theorem d_Mo_count_69 : decode b_Mo_count 69 = .ok (.aload_n 0, 1) := by decide +kernel
theorem d_Mo_count_70 : decode b_Mo_count 70 = .ok (.invokevirtual 165, 3) := by decide +kernel
theorem d_Mo_count_73 : decode b_Mo_count 73 = .ok (.ireturn, 1) := by decide +kernel
theorem d_Mo_count_74 : decode b_Mo_count 74 = .ok (.aload_n 0, 1) := by decide +kernel
theorem d_Mo_count_75 : decode b_Mo_count 75 = .ok (.invokevirtual 171, 3) := by decide +kernel
theorem d_Mo_count_78 : decode b_Mo_count 78 = .ok (.invokestatic 205, 3) := by decide +kernel
theorem d_Mo_count_81 : decode b_Mo_count 81 = .ok (.ireturn, 1) := by decide +kernel
theorem d_Mo_count_82 : decode b_Mo_count 82 = .ok (.aload_n 0, 1) := by decide +kernel
theorem d_Mo_count_83 : decode b_Mo_count 83 = .ok (.getfield 233, 3) := by decide +kernel
theorem d_Mo_count_86 : decode b_Mo_count 86 = .ok (.ireturn, 1) := by decide +kernel
theorem d_Mo_count_87 : decode b_Mo_count 87 = .ok (.aload_n 0, 1) := by decide +kernel
theorem d_Mo_count_88 : decode b_Mo_count 88 = .ok (.getfield 9, 3) := by decide +kernel
theorem d_Mo_count_91 : decode b_Mo_count 91 = .ok (.iconst 2, 1) := by decide +kernel
theorem d_Mo_count_92 : decode b_Mo_count 92 = .ok (.iaload, 1) := by decide +kernel
theorem d_Mo_count_93 : decode b_Mo_count 93 = .ok (.ireturn, 1) := by decide +kernel
theorem d_Mo_count_94 : decode b_Mo_count 94 = .ok (.iconst 0, 1) := by decide +kernel
theorem d_Mo_count_95 : decode b_Mo_count 95 = .ok (.istore_n 3, 1) := by decide +kernel
theorem d_Mo_count_96 : decode b_Mo_count 96 = .ok (.iload_n 3, 1) := by decide +kernel
theorem d_Mo_count_97 : decode b_Mo_count 97 = .ok (.bipush 10, 2) := by decide +kernel
theorem d_Mo_count_99 : decode b_Mo_count 99 = .ok (.if_icmp .ge 29, 3) := by decide +kernel
theorem d_Mo_count_102 : decode b_Mo_count 102 = .ok (.iload_n 2, 1) := by decide +kernel
theorem d_Mo_count_103 : decode b_Mo_count 103 = .ok (.aload_n 0, 1) := by decide +kernel
theorem d_Mo_count_104 : decode b_Mo_count 104 = .ok (.getfield 9, 3) := by decide +kernel
theorem d_Mo_count_107 : decode b_Mo_count 107 = .ok (.bipush 10, 2) := by decide +kernel
theorem d_Mo_count_109 : decode b_Mo_count 109 = .ok (.iload_n 3, 1) := by decide +kernel
theorem d_Mo_count_110 : decode b_Mo_count 110 = .ok (.iadd, 1) := by decide +kernel
theorem d_Mo_count_111 : decode b_Mo_count 111 = .ok (.iaload, 1) := by decide +kernel
theorem d_Mo_count_112 : decode b_Mo_count 112 = .ok (.ifCond .ge 7, 3) := by decide +kernel
theorem d_Mo_count_115 : decode b_Mo_count 115 = .ok (.iconst 0, 1) := by decide +kernel
theorem d_Mo_count_116 : decode b_Mo_count 116 = .ok (.goto 4, 3) := by decide +kernel
theorem d_Mo_count_119 : decode b_Mo_count 119 = .ok (.iconst 1, 1) := by decide +kernel
theorem d_Mo_count_120 : decode b_Mo_count 120 = .ok (.iadd, 1) := by decide +kernel
theorem d_Mo_count_121 : decode b_Mo_count 121 = .ok (.istore_n 2, 1) := by decide +kernel
theorem d_Mo_count_122 : decode b_Mo_count 122 = .ok (.iinc 3 1, 3) := by decide +kernel
theorem d_Mo_count_125 : decode b_Mo_count 125 = .ok (.goto (-29), 3) := by decide +kernel
theorem d_Mo_count_128 : decode b_Mo_count 128 = .ok (.iload_n 2, 1) := by decide +kernel
theorem d_Mo_count_129 : decode b_Mo_count 129 = .ok (.ireturn, 1) := by decide +kernel
theorem d_Mo_count_130 : decode b_Mo_count 130 = .ok (.aload_n 0, 1) := by decide +kernel
theorem d_Mo_count_131 : decode b_Mo_count 131 = .ok (.ldc 60, 2) := by decide +kernel
theorem d_Mo_count_133 : decode b_Mo_count 133 = .ok (.invokevirtual 66, 3) := by decide +kernel
theorem d_Mo_count_136 : decode b_Mo_count 136 = .ok (.ireturn, 1) := by decide +kernel
theorem d_Mo_status_0 : decode b_Mo_status 0 = .ok (.iload_n 1, 1) := by decide +kernel
theorem d_Mo_status_1 : decode b_Mo_status 1 = .ok (.iconst (-1), 1) := by decide +kernel
theorem d_Mo_status_2 : decode b_Mo_status 2 = .ok (.bipush 6, 2) := by decide +kernel
theorem d_Mo_status_4 : decode b_Mo_status 4 = .ok (.invokestatic 70, 3) := by decide +kernel
theorem d_Mo_status_7 : decode b_Mo_status 7 = .ok (.ifCond .eq 14, 3) := by decide +kernel
theorem d_Mo_status_10 : decode b_Mo_status 10 = .ok (.aload_n 0, 1) := by decide +kernel
theorem d_Mo_status_11 : decode b_Mo_status 11 = .ok (.getfield 19, 3) := by decide +kernel
theorem d_Mo_status_14 : decode b_Mo_status 14 = .ok (.iload_n 1, 1) := by decide +kernel
theorem d_Mo_status_15 : decode b_Mo_status 15 = .ok (.iconst 1, 1) := by decide +kernel
theorem d_Mo_status_16 : decode b_Mo_status 16 = .ok (.iadd, 1) := by decide +kernel
theorem d_Mo_status_17 : decode b_Mo_status 17 = .ok (.iaload, 1) := by decide +kernel
theorem d_Mo_status_18 : decode b_Mo_status 18 = .ok (.goto 9, 3) := by decide +kernel
theorem d_Mo_status_21 : decode b_Mo_status 21 = .ok (.aload_n 0, 1) := by decide +kernel
theorem d_Mo_status_22 : decode b_Mo_status 22 = .ok (.ldc 60, 2) := by decide +kernel
theorem d_Mo_status_24 : decode b_Mo_status 24 = .ok (.invokevirtual 66, 3) := by decide +kernel
theorem d_Mo_status_27 : decode b_Mo_status 27 = .ok (.ireturn, 1) := by decide +kernel
