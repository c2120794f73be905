theorem d_Fo_init_0 : decode b_Fo_init 0 = .ok (.aload_n 0, 1) := by decide +kernel
theorem d_Fo_init_1 : decode b_Fo_init 1 = .ok (.invokespecial 3, 3) := by decide +kernel
theorem d_Fo_init_4 : decode b_Fo_init 4 = .ok (.aload_n 0, 1) := by decide +kernel
theorem d_Fo_init_5 : decode b_Fo_init 5 = .ok (.aload_n 1, 1) := by decide +kernel
theorem d_Fo_init_6 : decode b_Fo_init 6 = .ok (.putfield 9, 3) := by decide +kernel
theorem d_Fo_init_9 : decode b_Fo_init 9 = .ok (.aload_n 0, 1) := by decide +kernel
theorem d_Fo_init_10 : decode b_Fo_init 10 = .ok (.aload_n 2, 1) := by decide +kernel
theorem d_Fo_init_11 : decode b_Fo_init 11 = .ok (.putfield 15, 3) := by decide +kernel
theorem d_Fo_init_14 : decode b_Fo_init 14 = .ok (.return_, 1) := by decide +kernel
theorem d_Fo_behind_0 : decode b_Fo_behind 0 = .ok (.aload_n 0, 1) := by decide +kernel
theorem d_Fo_behind_1 : decode b_Fo_behind 1 = .ok (.getfield 15, 3) := by decide +kernel
theorem d_Fo_behind_4 : decode b_Fo_behind 4 = .ok (.aload_n 0, 1) := by decide +kernel
theorem d_Fo_behind_5 : decode b_Fo_behind 5 = .ok (.getfield 9, 3) := by decide +kernel
theorem d_Fo_behind_8 : decode b_Fo_behind 8 = .ok (.invokevirtual 18, 3) := by decide +kernel
theorem d_Fo_behind_11 : decode b_Fo_behind 11 = .ok (.aload_n 0, 1) := by decide +kernel
theorem d_Fo_behind_12 : decode b_Fo_behind 12 = .ok (.getfield 15, 3) := by decide +kernel
theorem d_Fo_behind_15 : decode b_Fo_behind 15 = .ok (.iload_n 1, 1) := by decide +kernel
theorem d_Fo_behind_16 : decode b_Fo_behind 16 = .ok (.invokevirtual 24, 3) := by decide +kernel
theorem d_Fo_behind_19 : decode b_Fo_behind 19 = .ok (.aload_n 0, 1) := by decide +kernel
theorem d_Fo_behind_20 : decode b_Fo_behind 20 = .ok (.getfield 15, 3) := by decide +kernel
theorem d_Fo_behind_23 : decode b_Fo_behind 23 = .ok (.areturn, 1) := by decide +kernel
theorem d_Fo_daysTillGuns_0 : decode b_Fo_daysTillGuns 0 = .ok (.aload_n 0, 1) := by decide +kernel
theorem d_Fo_daysTillGuns_1 : decode b_Fo_daysTillGuns 1 = .ok (.getfield 15, 3) := by decide +kernel
theorem d_Fo_daysTillGuns_4 : decode b_Fo_daysTillGuns 4 = .ok (.aload_n 0, 1) := by decide +kernel
theorem d_Fo_daysTillGuns_5 : decode b_Fo_daysTillGuns 5 = .ok (.getfield 9, 3) := by decide +kernel
theorem d_Fo_daysTillGuns_8 : decode b_Fo_daysTillGuns 8 = .ok (.invokevirtual 18, 3) := by decide +kernel
theorem d_Fo_daysTillGuns_11 : decode b_Fo_daysTillGuns 11 = .ok (.iconst 0, 1) := by decide +kernel
theorem d_Fo_daysTillGuns_12 : decode b_Fo_daysTillGuns 12 = .ok (.istore_n 2, 1) := by decide +kernel
theorem d_Fo_daysTillGuns_13 : decode b_Fo_daysTillGuns 13 = .ok (.iload_n 2, 1) := by decide +kernel
theorem d_Fo_daysTillGuns_14 : decode b_Fo_daysTillGuns 14 = .ok (.sipush 200, 3) := by decide +kernel
theorem d_Fo_daysTillGuns_17 : decode b_Fo_daysTillGuns 17 = .ok (.if_icmp .gt 29, 3) := by decide +kernel
theorem d_Fo_daysTillGuns_20 : decode b_Fo_daysTillGuns 20 = .ok (.aload_n 0, 1) := by decide +kernel
theorem d_Fo_daysTillGuns_21 : decode b_Fo_daysTillGuns 21 = .ok (.getfield 15, 3) := by decide +kernel
theorem d_Fo_daysTillGuns_24 : decode b_Fo_daysTillGuns 24 = .ok (.getfield 28, 3) := by decide +kernel
theorem d_Fo_daysTillGuns_27 : decode b_Fo_daysTillGuns 27 = .ok (.iload_n 1, 1) := by decide +kernel
theorem d_Fo_daysTillGuns_28 : decode b_Fo_daysTillGuns 28 = .ok (.if_icmp .gt 5, 3) := by decide +kernel
theorem d_Fo_daysTillGuns_31 : decode b_Fo_daysTillGuns 31 = .ok (.iload_n 2, 1) := by decide +kernel
theorem d_Fo_daysTillGuns_32 : decode b_Fo_daysTillGuns 32 = .ok (.ireturn, 1) := by decide +kernel
theorem d_Fo_daysTillGuns_33 : decode b_Fo_daysTillGuns 33 = .ok (.aload_n 0, 1) := by decide +kernel
theorem d_Fo_daysTillGuns_34 : decode b_Fo_daysTillGuns 34 = .ok (.getfield 15, 3) := by decide +kernel
theorem d_Fo_daysTillGuns_37 : decode b_Fo_daysTillGuns 37 = .ok (.invokevirtual 32, 3) := by decide +kernel
theorem d_Fo_daysTillGuns_40 : decode b_Fo_daysTillGuns 40 = .ok (.iinc 2 1, 3) := by decide +kernel
theorem d_Fo_daysTillGuns_43 : decode b_Fo_daysTillGuns 43 = .ok (.goto (-30), 3) := by decide +kernel
theorem d_Fo_daysTillGuns_46 : decode b_Fo_daysTillGuns 46 = .ok (.iconst (-1), 1) := by decide +kernel
theorem d_Fo_daysTillGuns_47 : decode b_Fo_daysTillGuns 47 = .ok (.ireturn, 1) := by decide +kernel
theorem d_Fo_daysTillMet_0 : decode b_Fo_daysTillMet 0 = .ok (.aload_n 0, 1) := by decide +kernel
theorem d_Fo_daysTillMet_1 : decode b_Fo_daysTillMet 1 = .ok (.getfield 15, 3) := by decide +kernel
theorem d_Fo_daysTillMet_4 : decode b_Fo_daysTillMet 4 = .ok (.aload_n 0, 1) := by decide +kernel
theorem d_Fo_daysTillMet_5 : decode b_Fo_daysTillMet 5 = .ok (.getfield 9, 3) := by decide +kernel
theorem d_Fo_daysTillMet_8 : decode b_Fo_daysTillMet 8 = .ok (.invokevirtual 18, 3) := by decide +kernel
theorem d_Fo_daysTillMet_11 : decode b_Fo_daysTillMet 11 = .ok (.iconst 0, 1) := by decide +kernel
theorem d_Fo_daysTillMet_12 : decode b_Fo_daysTillMet 12 = .ok (.istore_n 3, 1) := by decide +kernel
theorem d_Fo_daysTillMet_13 : decode b_Fo_daysTillMet 13 = .ok (.iload_n 3, 1) := by decide +kernel
theorem d_Fo_daysTillMet_14 : decode b_Fo_daysTillMet 14 = .ok (.sipush 200, 3) := by decide +kernel
theorem d_Fo_daysTillMet_17 : decode b_Fo_daysTillMet 17 = .ok (.if_icmp .gt 34, 3) := by decide +kernel
theorem d_Fo_daysTillMet_20 : decode b_Fo_daysTillMet 20 = .ok (.aload_n 0, 1) := by decide +kernel
theorem d_Fo_daysTillMet_21 : decode b_Fo_daysTillMet 21 = .ok (.getfield 15, 3) := by decide +kernel
theorem d_Fo_daysTillMet_24 : decode b_Fo_daysTillMet 24 = .ok (.getfield 35, 3) := by decide +kernel
theorem d_Fo_daysTillMet_27 : decode b_Fo_daysTillMet 27 = .ok (.iload_n 1, 1) := by decide +kernel
theorem d_Fo_daysTillMet_28 : decode b_Fo_daysTillMet 28 = .ok (.aaload, 1) := by decide +kernel
theorem d_Fo_daysTillMet_29 : decode b_Fo_daysTillMet 29 = .ok (.getfield 39, 3) := by decide +kernel
theorem d_Fo_daysTillMet_32 : decode b_Fo_daysTillMet 32 = .ok (.iload_n 2, 1) := by decide +kernel
theorem d_Fo_daysTillMet_33 : decode b_Fo_daysTillMet 33 = .ok (.if_icmp .lt 5, 3) := by decide +kernel
theorem d_Fo_daysTillMet_36 : decode b_Fo_daysTillMet 36 = .ok (.iload_n 3, 1) := by decide +kernel
theorem d_Fo_daysTillMet_37 : decode b_Fo_daysTillMet 37 = .ok (.ireturn, 1) := by decide +kernel
theorem d_Fo_daysTillMet_38 : decode b_Fo_daysTillMet 38 = .ok (.aload_n 0, 1) := by decide +kernel
theorem d_Fo_daysTillMet_39 : decode b_Fo_daysTillMet 39 = .ok (.getfield 15, 3) := by decide +kernel
theorem d_Fo_daysTillMet_42 : decode b_Fo_daysTillMet 42 = .ok (.invokevirtual 32, 3) := by decide +kernel
theorem d_Fo_daysTillMet_45 : decode b_Fo_daysTillMet 45 = .ok (.iinc 3 1, 3) := by decide +kernel
theorem d_Fo_daysTillMet_48 : decode b_Fo_daysTillMet 48 = .ok (.goto (-35), 3) := by decide +kernel
theorem d_Fo_daysTillMet_51 : decode b_Fo_daysTillMet 51 = .ok (.iconst (-1), 1) := by decide +kernel
theorem d_Fo_daysTillMet_52 : decode b_Fo_daysTillMet 52 = .ok (.ireturn, 1) := by decide +kernel
theorem d_Fo_daysTillNoSeason_0 : decode b_Fo_daysTillNoSeason 0 = .ok (.aload_n 0, 1) := by decide +kernel
theorem d_Fo_daysTillNoSeason_1 : decode b_Fo_daysTillNoSeason 1 = .ok (.getfield 15, 3) := by decide +kernel
theorem d_Fo_daysTillNoSeason_4 : decode b_Fo_daysTillNoSeason 4 = .ok (.aload_n 0, 1) := by decide +kernel
theorem d_Fo_daysTillNoSeason_5 : decode b_Fo_daysTillNoSeason 5 = .ok (.getfield 9, 3) := by decide +kernel
theorem d_Fo_daysTillNoSeason_8 : decode b_Fo_daysTillNoSeason 8 = .ok (.invokevirtual 18, 3) := by decide +kernel
theorem d_Fo_daysTillNoSeason_11 : decode b_Fo_daysTillNoSeason 11 = .ok (.iconst 0, 1) := by decide +kernel
theorem d_Fo_daysTillNoSeason_12 : decode b_Fo_daysTillNoSeason 12 = .ok (.istore_n 1, 1) := by decide +kernel
theorem d_Fo_daysTillNoSeason_13 : decode b_Fo_daysTillNoSeason 13 = .ok (.iload_n 1, 1) := by decide +kernel
theorem d_Fo_daysTillNoSeason_14 : decode b_Fo_daysTillNoSeason 14 = .ok (.sipush 200, 3) := by decide +kernel
theorem d_Fo_daysTillNoSeason_17 : decode b_Fo_daysTillNoSeason 17 = .ok (.if_icmp .gt 28, 3) := by decide +kernel
theorem d_Fo_daysTillNoSeason_20 : decode b_Fo_daysTillNoSeason 20 = .ok (.aload_n 0, 1) := by decide +kernel
theorem d_Fo_daysTillNoSeason_21 : decode b_Fo_daysTillNoSeason 21 = .ok (.getfield 15, 3) := by decide +kernel
theorem d_Fo_daysTillNoSeason_24 : decode b_Fo_daysTillNoSeason 24 = .ok (.invokevirtual 44, 3) := by decide +kernel
theorem d_Fo_daysTillNoSeason_27 : decode b_Fo_daysTillNoSeason 27 = .ok (.ifCond .ne 5, 3) := by decide +kernel
theorem d_Fo_daysTillNoSeason_30 : decode b_Fo_daysTillNoSeason 30 = .ok (.iload_n 1, 1) := by decide +kernel
theorem d_Fo_daysTillNoSeason_31 : decode b_Fo_daysTillNoSeason 31 = .ok (.ireturn, 1) := by decide +kernel
theorem d_Fo_daysTillNoSeason_32 : decode b_Fo_daysTillNoSeason 32 = .ok (.aload_n 0, 1) := by decide +kernel
theorem d_Fo_daysTillNoSeason_33 : decode b_Fo_daysTillNoSeason 33 = .ok (.getfield 15, 3) := by decide +kernel
theorem d_Fo_daysTillNoSeason_36 : decode b_Fo_daysTillNoSeason 36 = .ok (.invokevirtual 32, 3) := by decide +kernel
theorem d_Fo_daysTillNoSeason_39 : decode b_Fo_daysTillNoSeason 39 = .ok (.iinc 1 1, 3) := by decide +kernel
theorem d_Fo_daysTillNoSeason_42 : decode b_Fo_daysTillNoSeason 42 = .ok (.goto (-29), 3) := by decide +kernel
theorem d_Fo_daysTillNoSeason_45 : decode b_Fo_daysTillNoSeason 45 = .ok (.iconst (-1), 1) := by decide +kernel
theorem d_Fo_daysTillNoSeason_46 : decode b_Fo_daysTillNoSeason 46 = .ok (.ireturn, 1) := by decide +kernel
theorem d_Fo_stillestCell_0 : decode b_Fo_stillestCell 0 = .ok (.iconst 0, 1) := by decide +kernel
theorem d_Fo_stillestCell_1 : decode b_Fo_stillestCell 1 = .ok (.istore_n 3, 1) := by decide +kernel
theorem d_Fo_stillestCell_2 : decode b_Fo_stillestCell 2 = .ok (.bipush 100, 2) := by decide +kernel
theorem d_Fo_stillestCell_4 : decode b_Fo_stillestCell 4 = .ok (.istore 4, 2) := by decide +kernel
theorem d_Fo_stillestCell_6 : decode b_Fo_stillestCell 6 = .ok (.iconst 0, 1) := by decide +kernel
theorem d_Fo_stillestCell_7 : decode b_Fo_stillestCell 7 = .ok (.istore 5, 2) := by decide +kernel
theorem d_Fo_stillestCell_9 : decode b_Fo_stillestCell 9 = .ok (.iload 5, 2) := by decide +kernel
theorem d_Fo_stillestCell_11 : decode b_Fo_stillestCell 11 = .ok (.bipush 16, 2) := by decide +kernel
theorem d_Fo_stillestCell_13 : decode b_Fo_stillestCell 13 = .ok (.if_icmp .ge 63, 3) := by decide +kernel
theorem d_Fo_stillestCell_16 : decode b_Fo_stillestCell 16 = .ok (.aload_n 0, 1) := by decide +kernel
theorem d_Fo_stillestCell_17 : decode b_Fo_stillestCell 17 = .ok (.getfield 15, 3) := by decide +kernel
theorem d_Fo_stillestCell_20 : decode b_Fo_stillestCell 20 = .ok (.aload_n 0, 1) := by decide +kernel
theorem d_Fo_stillestCell_21 : decode b_Fo_stillestCell 21 = .ok (.getfield 9, 3) := by decide +kernel
theorem d_Fo_stillestCell_24 : decode b_Fo_stillestCell 24 = .ok (.invokevirtual 18, 3) := by decide +kernel
theorem d_Fo_stillestCell_27 : decode b_Fo_stillestCell 27 = .ok (.aload_n 0, 1) := by decide +kernel
theorem d_Fo_stillestCell_28 : decode b_Fo_stillestCell 28 = .ok (.getfield 15, 3) := by decide +kernel
theorem d_Fo_stillestCell_31 : decode b_Fo_stillestCell 31 = .ok (.getfield 48, 3) := by decide +kernel
theorem d_Fo_stillestCell_34 : decode b_Fo_stillestCell 34 = .ok (.iload_n 1, 1) := by decide +kernel
theorem d_Fo_stillestCell_35 : decode b_Fo_stillestCell 35 = .ok (.iload 5, 2) := by decide +kernel
theorem d_Fo_stillestCell_37 : decode b_Fo_stillestCell 37 = .ok (.iastore, 1) := by decide +kernel
theorem d_Fo_stillestCell_38 : decode b_Fo_stillestCell 38 = .ok (.aload_n 0, 1) := by decide +kernel
theorem d_Fo_stillestCell_39 : decode b_Fo_stillestCell 39 = .ok (.getfield 15, 3) := by decide +kernel
theorem d_Fo_stillestCell_42 : decode b_Fo_stillestCell 42 = .ok (.iload_n 2, 1) := by decide +kernel
theorem d_Fo_stillestCell_43 : decode b_Fo_stillestCell 43 = .ok (.invokevirtual 24, 3) := by decide +kernel
theorem d_Fo_stillestCell_46 : decode b_Fo_stillestCell 46 = .ok (.aload_n 0, 1) := by decide +kernel
theorem d_Fo_stillestCell_47 : decode b_Fo_stillestCell 47 = .ok (.getfield 15, 3) := by decide +kernel
theorem d_Fo_stillestCell_50 : decode b_Fo_stillestCell 50 = .ok (.getfield 28, 3) := by decide +kernel
theorem d_Fo_stillestCell_53 : decode b_Fo_stillestCell 53 = .ok (.iload 4, 2) := by decide +kernel
theorem d_Fo_stillestCell_55 : decode b_Fo_stillestCell 55 = .ok (.if_icmp .ge 15, 3) := by decide +kernel
theorem d_Fo_stillestCell_58 : decode b_Fo_stillestCell 58 = .ok (.aload_n 0, 1) := by decide +kernel
theorem d_Fo_stillestCell_59 : decode b_Fo_stillestCell 59 = .ok (.getfield 15, 3) := by decide +kernel
theorem d_Fo_stillestCell_62 : decode b_Fo_stillestCell 62 = .ok (.getfield 28, 3) := by decide +kernel
theorem d_Fo_stillestCell_65 : decode b_Fo_stillestCell 65 = .ok (.istore 4, 2) := by decide +kernel
theorem d_Fo_stillestCell_67 : decode b_Fo_stillestCell 67 = .ok (.iload 5, 2) := by decide +kernel
theorem d_Fo_stillestCell_69 : decode b_Fo_stillestCell 69 = .ok (.istore_n 3, 1) := by decide +kernel
theorem d_Fo_stillestCell_70 : decode b_Fo_stillestCell 70 = .ok (.iinc 5 1, 3) := by decide +kernel
theorem d_Fo_stillestCell_73 : decode b_Fo_stillestCell 73 = .ok (.goto (-64), 3) := by decide +kernel
theorem d_Fo_stillestCell_76 : decode b_Fo_stillestCell 76 = .ok (.iload_n 3, 1) := by decide +kernel
theorem d_Fo_stillestCell_77 : decode b_Fo_stillestCell 77 = .ok (.ireturn, 1) := by decide +kernel
theorem d_Fo_stillestKind_0 : decode b_Fo_stillestKind 0 = .ok (.iconst 0, 1) := by decide +kernel
theorem d_Fo_stillestKind_1 : decode b_Fo_stillestKind 1 = .ok (.istore_n 3, 1) := by decide +kernel
theorem d_Fo_stillestKind_2 : decode b_Fo_stillestKind 2 = .ok (.bipush 100, 2) := by decide +kernel
theorem d_Fo_stillestKind_4 : decode b_Fo_stillestKind 4 = .ok (.istore 4, 2) := by decide +kernel
theorem d_Fo_stillestKind_6 : decode b_Fo_stillestKind 6 = .ok (.iconst 0, 1) := by decide +kernel
theorem d_Fo_stillestKind_7 : decode b_Fo_stillestKind 7 = .ok (.istore 5, 2) := by decide +kernel
theorem d_Fo_stillestKind_9 : decode b_Fo_stillestKind 9 = .ok (.iload 5, 2) := by decide +kernel
theorem d_Fo_stillestKind_11 : decode b_Fo_stillestKind 11 = .ok (.bipush 6, 2) := by decide +kernel
theorem d_Fo_stillestKind_13 : decode b_Fo_stillestKind 13 = .ok (.if_icmp .gt 49, 3) := by decide +kernel
theorem d_Fo_stillestKind_16 : decode b_Fo_stillestKind 16 = .ok (.aload_n 0, 1) := by decide +kernel
theorem d_Fo_stillestKind_17 : decode b_Fo_stillestKind 17 = .ok (.iload_n 1, 1) := by decide +kernel
theorem d_Fo_stillestKind_18 : decode b_Fo_stillestKind 18 = .ok (.iconst 0, 1) := by decide +kernel
theorem d_Fo_stillestKind_19 : decode b_Fo_stillestKind 19 = .ok (.iload 5, 2) := by decide +kernel
theorem d_Fo_stillestKind_21 : decode b_Fo_stillestKind 21 = .ok (.invokevirtual 52, 3) := by decide +kernel
theorem d_Fo_stillestKind_24 : decode b_Fo_stillestKind 24 = .ok (.aload_n 0, 1) := by decide +kernel
theorem d_Fo_stillestKind_25 : decode b_Fo_stillestKind 25 = .ok (.getfield 15, 3) := by decide +kernel
theorem d_Fo_stillestKind_28 : decode b_Fo_stillestKind 28 = .ok (.iload_n 2, 1) := by decide +kernel
theorem d_Fo_stillestKind_29 : decode b_Fo_stillestKind 29 = .ok (.invokevirtual 24, 3) := by decide +kernel
theorem d_Fo_stillestKind_32 : decode b_Fo_stillestKind 32 = .ok (.aload_n 0, 1) := by decide +kernel
theorem d_Fo_stillestKind_33 : decode b_Fo_stillestKind 33 = .ok (.getfield 15, 3) := by decide +kernel
theorem d_Fo_stillestKind_36 : decode b_Fo_stillestKind 36 = .ok (.getfield 28, 3) := by decide +kernel
theorem d_Fo_stillestKind_39 : decode b_Fo_stillestKind 39 = .ok (.iload 4, 2) := by decide +kernel
theorem d_Fo_stillestKind_41 : decode b_Fo_stillestKind 41 = .ok (.if_icmp .ge 15, 3) := by decide +kernel
theorem d_Fo_stillestKind_44 : decode b_Fo_stillestKind 44 = .ok (.aload_n 0, 1) := by decide +kernel
theorem d_Fo_stillestKind_45 : decode b_Fo_stillestKind 45 = .ok (.getfield 15, 3) := by decide +kernel
theorem d_Fo_stillestKind_48 : decode b_Fo_stillestKind 48 = .ok (.getfield 28, 3) := by decide +kernel
theorem d_Fo_stillestKind_51 : decode b_Fo_stillestKind 51 = .ok (.istore 4, 2) := by decide +kernel
theorem d_Fo_stillestKind_53 : decode b_Fo_stillestKind 53 = .ok (.iload 5, 2) := by decide +kernel
theorem d_Fo_stillestKind_55 : decode b_Fo_stillestKind 55 = .ok (.istore_n 3, 1) := by decide +kernel
theorem d_Fo_stillestKind_56 : decode b_Fo_stillestKind 56 = .ok (.iinc 5 1, 3) := by decide +kernel
theorem d_Fo_stillestKind_59 : decode b_Fo_stillestKind 59 = .ok (.goto (-50), 3) := by decide +kernel
theorem d_Fo_stillestKind_62 : decode b_Fo_stillestKind 62 = .ok (.iload_n 3, 1) := by decide +kernel
theorem d_Fo_stillestKind_63 : decode b_Fo_stillestKind 63 = .ok (.ireturn, 1) := by decide +kernel
theorem d_Fo_leastSeason_0 : decode b_Fo_leastSeason 0 = .ok (.getstatic 56, 3) := by decide +kernel
theorem d_Fo_leastSeason_3 : decode b_Fo_leastSeason 3 = .ok (.iconst 3, 1) := by decide +kernel
theorem d_Fo_leastSeason_4 : decode b_Fo_leastSeason 4 = .ok (.iaload, 1) := by decide +kernel
theorem d_Fo_leastSeason_5 : decode b_Fo_leastSeason 5 = .ok (.iconst 2, 1) := by decide +kernel
theorem d_Fo_leastSeason_6 : decode b_Fo_leastSeason 6 = .ok (.iload_n 3, 1) := by decide +kernel
theorem d_Fo_leastSeason_7 : decode b_Fo_leastSeason 7 = .ok (.imul, 1) := by decide +kernel
theorem d_Fo_leastSeason_8 : decode b_Fo_leastSeason 8 = .ok (.invokestatic 59, 3) := by decide +kernel
theorem d_Fo_leastSeason_11 : decode b_Fo_leastSeason 11 = .ok (.istore 4, 2) := by decide +kernel
theorem d_Fo_leastSeason_13 : decode b_Fo_leastSeason 13 = .ok (.iconst 0, 1) := by decide +kernel
theorem d_Fo_leastSeason_14 : decode b_Fo_leastSeason 14 = .ok (.istore 5, 2) := by decide +kernel
theorem d_Fo_leastSeason_16 : decode b_Fo_leastSeason 16 = .ok (.iload 5, 2) := by decide +kernel
theorem d_Fo_leastSeason_18 : decode b_Fo_leastSeason 18 = .ok (.iload 4, 2) := by decide +kernel
theorem d_Fo_leastSeason_20 : decode b_Fo_leastSeason 20 = .ok (.if_icmp .gt 44, 3) := by decide +kernel
theorem d_Fo_leastSeason_23 : decode b_Fo_leastSeason 23 = .ok (.aload_n 0, 1) := by decide +kernel
theorem d_Fo_leastSeason_24 : decode b_Fo_leastSeason 24 = .ok (.iload_n 1, 1) := by decide +kernel
theorem d_Fo_leastSeason_25 : decode b_Fo_leastSeason 25 = .ok (.iconst 3, 1) := by decide +kernel
theorem d_Fo_leastSeason_26 : decode b_Fo_leastSeason 26 = .ok (.iload 5, 2) := by decide +kernel
theorem d_Fo_leastSeason_28 : decode b_Fo_leastSeason 28 = .ok (.invokevirtual 52, 3) := by decide +kernel
theorem d_Fo_leastSeason_31 : decode b_Fo_leastSeason 31 = .ok (.aload_n 0, 1) := by decide +kernel
theorem d_Fo_leastSeason_32 : decode b_Fo_leastSeason 32 = .ok (.getfield 15, 3) := by decide +kernel
theorem d_Fo_leastSeason_35 : decode b_Fo_leastSeason 35 = .ok (.iload_n 3, 1) := by decide +kernel
theorem d_Fo_leastSeason_36 : decode b_Fo_leastSeason 36 = .ok (.invokevirtual 24, 3) := by decide +kernel
theorem d_Fo_leastSeason_39 : decode b_Fo_leastSeason 39 = .ok (.aload_n 0, 1) := by decide +kernel
theorem d_Fo_leastSeason_40 : decode b_Fo_leastSeason 40 = .ok (.getfield 15, 3) := by decide +kernel
theorem d_Fo_leastSeason_43 : decode b_Fo_leastSeason 43 = .ok (.getfield 35, 3) := by decide +kernel
theorem d_Fo_leastSeason_46 : decode b_Fo_leastSeason 46 = .ok (.iload_n 1, 1) := by decide +kernel
theorem d_Fo_leastSeason_47 : decode b_Fo_leastSeason 47 = .ok (.aaload, 1) := by decide +kernel
theorem d_Fo_leastSeason_48 : decode b_Fo_leastSeason 48 = .ok (.getfield 39, 3) := by decide +kernel
theorem d_Fo_leastSeason_51 : decode b_Fo_leastSeason 51 = .ok (.iload_n 2, 1) := by decide +kernel
theorem d_Fo_leastSeason_52 : decode b_Fo_leastSeason 52 = .ok (.if_icmp .lt 6, 3) := by decide +kernel
theorem d_Fo_leastSeason_55 : decode b_Fo_leastSeason 55 = .ok (.iload 5, 2) := by decide +kernel
theorem d_Fo_leastSeason_57 : decode b_Fo_leastSeason 57 = .ok (.ireturn, 1) := by decide +kernel
theorem d_Fo_leastSeason_58 : decode b_Fo_leastSeason 58 = .ok (.iinc 5 1, 3) := by decide +kernel
theorem d_Fo_leastSeason_61 : decode b_Fo_leastSeason 61 = .ok (.goto (-45), 3) := by decide +kernel
theorem d_Fo_leastSeason_64 : decode b_Fo_leastSeason 64 = .ok (.iconst (-1), 1) := by decide +kernel
theorem d_Fo_leastSeason_65 : decode b_Fo_leastSeason 65 = .ok (.ireturn, 1) := by decide +kernel
theorem d_Fo_mostBags_0 : decode b_Fo_mostBags 0 = .ok (.getstatic 56, 3) := by decide +kernel
theorem d_Fo_mostBags_3 : decode b_Fo_mostBags 3 = .ok (.iconst 4, 1) := by decide +kernel
theorem d_Fo_mostBags_4 : decode b_Fo_mostBags 4 = .ok (.iaload, 1) := by decide +kernel
theorem d_Fo_mostBags_5 : decode b_Fo_mostBags 5 = .ok (.istore_n 3, 1) := by decide +kernel
theorem d_Fo_mostBags_6 : decode b_Fo_mostBags 6 = .ok (.iload_n 3, 1) := by decide +kernel
theorem d_Fo_mostBags_7 : decode b_Fo_mostBags 7 = .ok (.ifCond .lt 53, 3) := by decide +kernel
theorem d_Fo_mostBags_10 : decode b_Fo_mostBags 10 = .ok (.aload_n 0, 1) := by decide +kernel
theorem d_Fo_mostBags_11 : decode b_Fo_mostBags 11 = .ok (.iload_n 1, 1) := by decide +kernel
theorem d_Fo_mostBags_12 : decode b_Fo_mostBags 12 = .ok (.iconst 4, 1) := by decide +kernel
theorem d_Fo_mostBags_13 : decode b_Fo_mostBags 13 = .ok (.iload_n 3, 1) := by decide +kernel
theorem d_Fo_mostBags_14 : decode b_Fo_mostBags 14 = .ok (.invokevirtual 52, 3) := by decide +kernel
theorem d_Fo_mostBags_17 : decode b_Fo_mostBags 17 = .ok (.aload_n 0, 1) := by decide +kernel
theorem d_Fo_mostBags_18 : decode b_Fo_mostBags 18 = .ok (.getfield 15, 3) := by decide +kernel
theorem d_Fo_mostBags_21 : decode b_Fo_mostBags 21 = .ok (.iload_n 2, 1) := by decide +kernel
theorem d_Fo_mostBags_22 : decode b_Fo_mostBags 22 = .ok (.invokevirtual 24, 3) := by decide +kernel
theorem d_Fo_mostBags_25 : decode b_Fo_mostBags 25 = .ok (.aload_n 0, 1) := by decide +kernel
theorem d_Fo_mostBags_26 : decode b_Fo_mostBags 26 = .ok (.getfield 15, 3) := by decide +kernel
theorem d_Fo_mostBags_29 : decode b_Fo_mostBags 29 = .ok (.getfield 35, 3) := by decide +kernel
theorem d_Fo_mostBags_32 : decode b_Fo_mostBags 32 = .ok (.iload_n 1, 1) := by decide +kernel
theorem d_Fo_mostBags_33 : decode b_Fo_mostBags 33 = .ok (.aaload, 1) := by decide +kernel
theorem d_Fo_mostBags_34 : decode b_Fo_mostBags 34 = .ok (.getfield 39, 3) := by decide +kernel
theorem d_Fo_mostBags_37 : decode b_Fo_mostBags 37 = .ok (.aload_n 0, 1) := by decide +kernel
theorem d_Fo_mostBags_38 : decode b_Fo_mostBags 38 = .ok (.getfield 9, 3) := by decide +kernel
theorem d_Fo_mostBags_41 : decode b_Fo_mostBags 41 = .ok (.getfield 35, 3) := by decide +kernel
theorem d_Fo_mostBags_44 : decode b_Fo_mostBags 44 = .ok (.iload_n 1, 1) := by decide +kernel
theorem d_Fo_mostBags_45 : decode b_Fo_mostBags 45 = .ok (.aaload, 1) := by decide +kernel
theorem d_Fo_mostBags_46 : decode b_Fo_mostBags 46 = .ok (.getfield 39, 3) := by decide +kernel
theorem d_Fo_mostBags_49 : decode b_Fo_mostBags 49 = .ok (.if_icmp .le 5, 3) := by decide +kernel
theorem d_Fo_mostBags_52 : decode b_Fo_mostBags 52 = .ok (.iload_n 3, 1) := by decide +kernel
theorem d_Fo_mostBags_53 : decode b_Fo_mostBags 53 = .ok (.ireturn, 1) := by decide +kernel
theorem d_Fo_mostBags_54 : decode b_Fo_mostBags 54 = .ok (.iinc 3 (-1), 3) := by decide +kernel
theorem d_Fo_mostBags_57 : decode b_Fo_mostBags 57 = .ok (.goto (-51), 3) := by decide +kernel
theorem d_Fo_mostBags_60 : decode b_Fo_mostBags 60 = .ok (.iconst (-1), 1) := by decide +kernel
theorem d_Fo_mostBags_61 : decode b_Fo_mostBags 61 = .ok (.ireturn, 1) := by decide +kernel
theorem d_Fo_fewestLeftOut_0 : decode b_Fo_fewestLeftOut 0 = .ok (.iconst 1, 1) := by decide +kernel
theorem d_Fo_fewestLeftOut_1 : decode b_Fo_fewestLeftOut 1 = .ok (.aload_n 0, 1) := by decide +kernel
theorem d_Fo_fewestLeftOut_2 : decode b_Fo_fewestLeftOut 2 = .ok (.getfield 9, 3) := by decide +kernel
theorem d_Fo_fewestLeftOut_5 : decode b_Fo_fewestLeftOut 5 = .ok (.getfield 65, 3) := by decide +kernel
theorem d_Fo_fewestLeftOut_8 : decode b_Fo_fewestLeftOut 8 = .ok (.ishl, 1) := by decide +kernel
theorem d_Fo_fewestLeftOut_9 : decode b_Fo_fewestLeftOut 9 = .ok (.istore_n 2, 1) := by decide +kernel
theorem d_Fo_fewestLeftOut_10 : decode b_Fo_fewestLeftOut 10 = .ok (.iconst 0, 1) := by decide +kernel
theorem d_Fo_fewestLeftOut_11 : decode b_Fo_fewestLeftOut 11 = .ok (.istore_n 3, 1) := by decide +kernel
theorem d_Fo_fewestLeftOut_12 : decode b_Fo_fewestLeftOut 12 = .ok (.iload_n 3, 1) := by decide +kernel
theorem d_Fo_fewestLeftOut_13 : decode b_Fo_fewestLeftOut 13 = .ok (.aload_n 0, 1) := by decide +kernel
theorem d_Fo_fewestLeftOut_14 : decode b_Fo_fewestLeftOut 14 = .ok (.getfield 9, 3) := by decide +kernel
theorem d_Fo_fewestLeftOut_17 : decode b_Fo_fewestLeftOut 17 = .ok (.getfield 65, 3) := by decide +kernel
theorem d_Fo_fewestLeftOut_20 : decode b_Fo_fewestLeftOut 20 = .ok (.if_icmp .gt 46, 3) := by decide +kernel
theorem d_Fo_fewestLeftOut_23 : decode b_Fo_fewestLeftOut 23 = .ok (.iconst 0, 1) := by decide +kernel
theorem d_Fo_fewestLeftOut_24 : decode b_Fo_fewestLeftOut 24 = .ok (.istore 4, 2) := by decide +kernel
theorem d_Fo_fewestLeftOut_26 : decode b_Fo_fewestLeftOut 26 = .ok (.iload 4, 2) := by decide +kernel
theorem d_Fo_fewestLeftOut_28 : decode b_Fo_fewestLeftOut 28 = .ok (.iload_n 2, 1) := by decide +kernel
theorem d_Fo_fewestLeftOut_29 : decode b_Fo_fewestLeftOut 29 = .ok (.if_icmp .ge 31, 3) := by decide +kernel
theorem d_Fo_fewestLeftOut_32 : decode b_Fo_fewestLeftOut 32 = .ok (.iload 4, 2) := by decide +kernel
theorem d_Fo_fewestLeftOut_34 : decode b_Fo_fewestLeftOut 34 = .ok (.invokestatic 68, 3) := by decide +kernel
theorem d_Fo_fewestLeftOut_37 : decode b_Fo_fewestLeftOut 37 = .ok (.iload_n 3, 1) := by decide +kernel
theorem d_Fo_fewestLeftOut_38 : decode b_Fo_fewestLeftOut 38 = .ok (.if_icmp .ne 16, 3) := by decide +kernel
theorem d_Fo_fewestLeftOut_41 : decode b_Fo_fewestLeftOut 41 = .ok (.aload_n 0, 1) := by decide +kernel
theorem d_Fo_fewestLeftOut_42 : decode b_Fo_fewestLeftOut 42 = .ok (.iload 4, 2) := by decide +kernel
theorem d_Fo_fewestLeftOut_44 : decode b_Fo_fewestLeftOut 44 = .ok (.iload_n 1, 1) := by decide +kernel
theorem d_Fo_fewestLeftOut_45 : decode b_Fo_fewestLeftOut 45 = .ok (.invokevirtual 74, 3) := by decide +kernel
theorem d_Fo_fewestLeftOut_48 : decode b_Fo_fewestLeftOut 48 = .ok (.ifCond .eq 6, 3) := by decide +kernel
theorem d_Fo_fewestLeftOut_51 : decode b_Fo_fewestLeftOut 51 = .ok (.iload 4, 2) := by decide +kernel
theorem d_Fo_fewestLeftOut_53 : decode b_Fo_fewestLeftOut 53 = .ok (.ireturn, 1) := by decide +kernel
theorem d_Fo_fewestLeftOut_54 : decode b_Fo_fewestLeftOut 54 = .ok (.iinc 4 1, 3) := by decide +kernel
theorem d_Fo_fewestLeftOut_57 : decode b_Fo_fewestLeftOut 57 = .ok (.goto (-31), 3) := by decide +kernel
theorem d_Fo_fewestLeftOut_60 : decode b_Fo_fewestLeftOut 60 = .ok (.iinc 3 1, 3) := by decide +kernel
theorem d_Fo_fewestLeftOut_63 : decode b_Fo_fewestLeftOut 63 = .ok (.goto (-51), 3) := by decide +kernel
theorem d_Fo_fewestLeftOut_66 : decode b_Fo_fewestLeftOut 66 = .ok (.iconst (-1), 1) := by decide +kernel
theorem d_Fo_fewestLeftOut_67 : decode b_Fo_fewestLeftOut 67 = .ok (.ireturn, 1) := by decide +kernel
theorem d_Fo_keepsApart_0 : decode b_Fo_keepsApart 0 = .ok (.aload_n 0, 1) := by decide +kernel
theorem d_Fo_keepsApart_1 : decode b_Fo_keepsApart 1 = .ok (.getfield 15, 3) := by decide +kernel
theorem d_Fo_keepsApart_4 : decode b_Fo_keepsApart 4 = .ok (.aload_n 0, 1) := by decide +kernel
theorem d_Fo_keepsApart_5 : decode b_Fo_keepsApart 5 = .ok (.getfield 9, 3) := by decide +kernel
theorem d_Fo_keepsApart_8 : decode b_Fo_keepsApart 8 = .ok (.invokevirtual 18, 3) := by decide +kernel
theorem d_Fo_keepsApart_11 : decode b_Fo_keepsApart 11 = .ok (.aload_n 0, 1) := by decide +kernel
theorem d_Fo_keepsApart_12 : decode b_Fo_keepsApart 12 = .ok (.getfield 15, 3) := by decide +kernel
theorem d_Fo_keepsApart_15 : decode b_Fo_keepsApart 15 = .ok (.iload_n 1, 1) := by decide +kernel
theorem d_Fo_keepsApart_16 : decode b_Fo_keepsApart 16 = .ok (.invokevirtual 78, 3) := by decide +kernel
theorem d_Fo_keepsApart_19 : decode b_Fo_keepsApart 19 = .ok (.aload_n 0, 1) := by decide +kernel
theorem d_Fo_keepsApart_20 : decode b_Fo_keepsApart 20 = .ok (.getfield 9, 3) := by decide +kernel
theorem d_Fo_keepsApart_23 : decode b_Fo_keepsApart 23 = .ok (.invokevirtual 81, 3) := by decide +kernel
theorem d_Fo_keepsApart_26 : decode b_Fo_keepsApart 26 = .ok (.istore_n 3, 1) := by decide +kernel
theorem d_Fo_keepsApart_27 : decode b_Fo_keepsApart 27 = .ok (.iconst 0, 1) := by decide +kernel
theorem d_Fo_keepsApart_28 : decode b_Fo_keepsApart 28 = .ok (.istore 4, 2) := by decide +kernel
theorem d_Fo_keepsApart_30 : decode b_Fo_keepsApart 30 = .ok (.iload 4, 2) := by decide +kernel
theorem d_Fo_keepsApart_32 : decode b_Fo_keepsApart 32 = .ok (.iload_n 2, 1) := by decide +kernel
theorem d_Fo_keepsApart_33 : decode b_Fo_keepsApart 33 = .ok (.if_icmp .ge 29, 3) := by decide +kernel
theorem d_Fo_keepsApart_36 : decode b_Fo_keepsApart 36 = .ok (.aload_n 0, 1) := by decide +kernel
theorem d_Fo_keepsApart_37 : decode b_Fo_keepsApart 37 = .ok (.getfield 15, 3) := by decide +kernel
theorem d_Fo_keepsApart_40 : decode b_Fo_keepsApart 40 = .ok (.invokevirtual 32, 3) := by decide +kernel
theorem d_Fo_keepsApart_43 : decode b_Fo_keepsApart 43 = .ok (.aload_n 0, 1) := by decide +kernel
theorem d_Fo_keepsApart_44 : decode b_Fo_keepsApart 44 = .ok (.getfield 15, 3) := by decide +kernel
theorem d_Fo_keepsApart_47 : decode b_Fo_keepsApart 47 = .ok (.invokevirtual 81, 3) := by decide +kernel
theorem d_Fo_keepsApart_50 : decode b_Fo_keepsApart 50 = .ok (.iload_n 3, 1) := by decide +kernel
theorem d_Fo_keepsApart_51 : decode b_Fo_keepsApart 51 = .ok (.if_icmp .eq 5, 3) := by decide +kernel
theorem d_Fo_keepsApart_54 : decode b_Fo_keepsApart 54 = .ok (.iconst 0, 1) := by decide +kernel
theorem d_Fo_keepsApart_55 : decode b_Fo_keepsApart 55 = .ok (.ireturn, 1) := by decide +kernel
theorem d_Fo_keepsApart_56 : decode b_Fo_keepsApart 56 = .ok (.iinc 4 1, 3) := by decide +kernel
theorem d_Fo_keepsApart_59 : decode b_Fo_keepsApart 59 = .ok (.goto (-29), 3) := by decide +kernel
theorem d_Fo_keepsApart_62 : decode b_Fo_keepsApart 62 = .ok (.iconst 1, 1) := by decide +kernel
theorem d_Fo_keepsApart_63 : decode b_Fo_keepsApart 63 = .ok (.ireturn, 1) := by decide +kernel
theorem d_Fo_valuesAsTold_0 : decode b_Fo_valuesAsTold 0 = .ok (.iconst 0, 1) := by decide +kernel
theorem d_Fo_valuesAsTold_1 : decode b_Fo_valuesAsTold 1 = .ok (.istore 4, 2) := by decide +kernel
theorem d_Fo_valuesAsTold_3 : decode b_Fo_valuesAsTold 3 = .ok (.iconst 0, 1) := by decide +kernel
theorem d_Fo_valuesAsTold_4 : decode b_Fo_valuesAsTold 4 = .ok (.istore 5, 2) := by decide +kernel
theorem d_Fo_valuesAsTold_6 : decode b_Fo_valuesAsTold 6 = .ok (.iload 5, 2) := by decide +kernel
theorem d_Fo_valuesAsTold_8 : decode b_Fo_valuesAsTold 8 = .ok (.getstatic 56, 3) := by decide +kernel
theorem d_Fo_valuesAsTold_11 : decode b_Fo_valuesAsTold 11 = .ok (.iload_n 3, 1) := by decide +kernel
theorem d_Fo_valuesAsTold_12 : decode b_Fo_valuesAsTold 12 = .ok (.iaload, 1) := by decide +kernel
theorem d_Fo_valuesAsTold_13 : decode b_Fo_valuesAsTold 13 = .ok (.if_icmp .gt 35, 3) := by decide +kernel
theorem d_Fo_valuesAsTold_16 : decode b_Fo_valuesAsTold 16 = .ok (.aload_n 0, 1) := by decide +kernel
theorem d_Fo_valuesAsTold_17 : decode b_Fo_valuesAsTold 17 = .ok (.iload_n 2, 1) := by decide +kernel
theorem d_Fo_valuesAsTold_18 : decode b_Fo_valuesAsTold 18 = .ok (.iload_n 3, 1) := by decide +kernel
theorem d_Fo_valuesAsTold_19 : decode b_Fo_valuesAsTold 19 = .ok (.iload 5, 2) := by decide +kernel
theorem d_Fo_valuesAsTold_21 : decode b_Fo_valuesAsTold 21 = .ok (.invokevirtual 52, 3) := by decide +kernel
theorem d_Fo_valuesAsTold_24 : decode b_Fo_valuesAsTold 24 = .ok (.aload_n 0, 1) := by decide +kernel
theorem d_Fo_valuesAsTold_25 : decode b_Fo_valuesAsTold 25 = .ok (.aload_n 1, 1) := by decide +kernel
theorem d_Fo_valuesAsTold_26 : decode b_Fo_valuesAsTold 26 = .ok (.iload_n 2, 1) := by decide +kernel
theorem d_Fo_valuesAsTold_27 : decode b_Fo_valuesAsTold 27 = .ok (.invokevirtual 84, 3) := by decide +kernel
theorem d_Fo_valuesAsTold_30 : decode b_Fo_valuesAsTold 30 = .ok (.ifCond .eq 12, 3) := by decide +kernel
theorem d_Fo_valuesAsTold_33 : decode b_Fo_valuesAsTold 33 = .ok (.iload 4, 2) := by decide +kernel
theorem d_Fo_valuesAsTold_35 : decode b_Fo_valuesAsTold 35 = .ok (.iconst 1, 1) := by decide +kernel
theorem d_Fo_valuesAsTold_36 : decode b_Fo_valuesAsTold 36 = .ok (.iload 5, 2) := by decide +kernel
theorem d_Fo_valuesAsTold_38 : decode b_Fo_valuesAsTold 38 = .ok (.ishl, 1) := by decide +kernel
theorem d_Fo_valuesAsTold_39 : decode b_Fo_valuesAsTold 39 = .ok (.ior, 1) := by decide +kernel
theorem d_Fo_valuesAsTold_40 : decode b_Fo_valuesAsTold 40 = .ok (.istore 4, 2) := by decide +kernel
theorem d_Fo_valuesAsTold_42 : decode b_Fo_valuesAsTold 42 = .ok (.iinc 5 1, 3) := by decide +kernel
theorem d_Fo_valuesAsTold_45 : decode b_Fo_valuesAsTold 45 = .ok (.goto (-39), 3) := by decide +kernel
theorem d_Fo_valuesAsTold_48 : decode b_Fo_valuesAsTold 48 = .ok (.iload 4, 2) := by decide +kernel
theorem d_Fo_valuesAsTold_50 : decode b_Fo_valuesAsTold 50 = .ok (.ireturn, 1) := by decide +kernel
theorem d_Fo_goesAsTold_0 : decode b_Fo_goesAsTold 0 = .ok (.iconst 0, 1) := by decide +kernel
theorem d_Fo_goesAsTold_1 : decode b_Fo_goesAsTold 1 = .ok (.istore_n 3, 1) := by decide +kernel
theorem d_Fo_goesAsTold_2 : decode b_Fo_goesAsTold 2 = .ok (.iload_n 3, 1) := by decide +kernel
theorem d_Fo_goesAsTold_3 : decode b_Fo_goesAsTold 3 = .ok (.aload_n 1, 1) := by decide +kernel
theorem d_Fo_goesAsTold_4 : decode b_Fo_goesAsTold 4 = .ok (.getfield 88, 3) := by decide +kernel
theorem d_Fo_goesAsTold_7 : decode b_Fo_goesAsTold 7 = .ok (.if_icmp .ge 49, 3) := by decide +kernel
theorem d_Fo_goesAsTold_10 : decode b_Fo_goesAsTold 10 = .ok (.aload_n 0, 1) := by decide +kernel
theorem d_Fo_goesAsTold_11 : decode b_Fo_goesAsTold 11 = .ok (.getfield 15, 3) := by decide +kernel
theorem d_Fo_goesAsTold_14 : decode b_Fo_goesAsTold 14 = .ok (.invokevirtual 32, 3) := by decide +kernel
theorem d_Fo_goesAsTold_17 : decode b_Fo_goesAsTold 17 = .ok (.aload_n 1, 1) := by decide +kernel
theorem d_Fo_goesAsTold_18 : decode b_Fo_goesAsTold 18 = .ok (.getfield 93, 3) := by decide +kernel
theorem d_Fo_goesAsTold_21 : decode b_Fo_goesAsTold 21 = .ok (.iload_n 3, 1) := by decide +kernel
theorem d_Fo_goesAsTold_22 : decode b_Fo_goesAsTold 22 = .ok (.iaload, 1) := by decide +kernel
theorem d_Fo_goesAsTold_23 : decode b_Fo_goesAsTold 23 = .ok (.istore 4, 2) := by decide +kernel
theorem d_Fo_goesAsTold_25 : decode b_Fo_goesAsTold 25 = .ok (.iload 4, 2) := by decide +kernel
theorem d_Fo_goesAsTold_27 : decode b_Fo_goesAsTold 27 = .ok (.iconst (-1), 1) := by decide +kernel
theorem d_Fo_goesAsTold_28 : decode b_Fo_goesAsTold 28 = .ok (.if_icmp .eq 22, 3) := by decide +kernel
theorem d_Fo_goesAsTold_31 : decode b_Fo_goesAsTold 31 = .ok (.iload 4, 2) := by decide +kernel
theorem d_Fo_goesAsTold_33 : decode b_Fo_goesAsTold 33 = .ok (.aload_n 0, 1) := by decide +kernel
theorem d_Fo_goesAsTold_34 : decode b_Fo_goesAsTold 34 = .ok (.getfield 15, 3) := by decide +kernel
theorem d_Fo_goesAsTold_37 : decode b_Fo_goesAsTold 37 = .ok (.getfield 35, 3) := by decide +kernel
theorem d_Fo_goesAsTold_40 : decode b_Fo_goesAsTold 40 = .ok (.iload_n 2, 1) := by decide +kernel
theorem d_Fo_goesAsTold_41 : decode b_Fo_goesAsTold 41 = .ok (.aaload, 1) := by decide +kernel
theorem d_Fo_goesAsTold_42 : decode b_Fo_goesAsTold 42 = .ok (.getfield 96, 3) := by decide +kernel
theorem d_Fo_goesAsTold_45 : decode b_Fo_goesAsTold 45 = .ok (.if_icmp .eq 5, 3) := by decide +kernel
theorem d_Fo_goesAsTold_48 : decode b_Fo_goesAsTold 48 = .ok (.iconst 0, 1) := by decide +kernel
theorem d_Fo_goesAsTold_49 : decode b_Fo_goesAsTold 49 = .ok (.ireturn, 1) := by decide +kernel
theorem d_Fo_goesAsTold_50 : decode b_Fo_goesAsTold 50 = .ok (.iinc 3 1, 3) := by decide +kernel
theorem d_Fo_goesAsTold_53 : decode b_Fo_goesAsTold 53 = .ok (.goto (-51), 3) := by decide +kernel
theorem d_Fo_goesAsTold_56 : decode b_Fo_goesAsTold 56 = .ok (.iconst 1, 1) := by decide +kernel
theorem d_Fo_goesAsTold_57 : decode b_Fo_goesAsTold 57 = .ok (.ireturn, 1) := by decide +kernel
theorem d_Fo_tryWith_0 : decode b_Fo_tryWith 0 = .ok (.aload_n 0, 1) := by decide +kernel
theorem d_Fo_tryWith_1 : decode b_Fo_tryWith 1 = .ok (.getfield 15, 3) := by decide +kernel
theorem d_Fo_tryWith_4 : decode b_Fo_tryWith 4 = .ok (.aload_n 0, 1) := by decide +kernel
theorem d_Fo_tryWith_5 : decode b_Fo_tryWith 5 = .ok (.getfield 9, 3) := by decide +kernel
theorem d_Fo_tryWith_8 : decode b_Fo_tryWith 8 = .ok (.invokevirtual 18, 3) := by decide +kernel
theorem d_Fo_tryWith_11 : decode b_Fo_tryWith 11 = .ok (.aload_n 0, 1) := by decide +kernel
theorem d_Fo_tryWith_12 : decode b_Fo_tryWith 12 = .ok (.getfield 15, 3) := by decide +kernel
theorem d_Fo_tryWith_15 : decode b_Fo_tryWith 15 = .ok (.getfield 35, 3) := by decide +kernel
theorem d_Fo_tryWith_18 : decode b_Fo_tryWith 18 = .ok (.iload_n 1, 1) := by decide +kernel
theorem d_Fo_tryWith_19 : decode b_Fo_tryWith 19 = .ok (.aaload, 1) := by decide +kernel
theorem d_Fo_tryWith_20 : decode b_Fo_tryWith 20 = .ok (.iload_n 2, 1) := by decide +kernel
theorem d_Fo_tryWith_21 : decode b_Fo_tryWith 21 = .ok (.iload_n 3, 1) := by decide +kernel
theorem d_Fo_tryWith_22 : decode b_Fo_tryWith 22 = .ok (.invokevirtual 99, 3) := by decide +kernel
theorem d_Fo_tryWith_25 : decode b_Fo_tryWith 25 = .ok (.return_, 1) := by decide +kernel
