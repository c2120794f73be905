theorem d_TP_init_0 : decode b_TP_init 0 = .ok (.aload_n 0, 1) := by decide +kernel
theorem d_TP_init_1 : decode b_TP_init 1 = .ok (.invokespecial 3, 3) := by decide +kernel
theorem d_TP_init_4 : decode b_TP_init 4 = .ok (.aload_n 0, 1) := by decide +kernel
theorem d_TP_init_5 : decode b_TP_init 5 = .ok (.new 9, 3) := by decide +kernel
theorem d_TP_init_8 : decode b_TP_init 8 = .ok (.dup, 1) := by decide +kernel
theorem d_TP_init_9 : decode b_TP_init 9 = .ok (.invokespecial 11, 3) := by decide +kernel
theorem d_TP_init_12 : decode b_TP_init 12 = .ok (.putfield 12, 3) := by decide +kernel
theorem d_TP_init_15 : decode b_TP_init 15 = .ok (.aload_n 0, 1) := by decide +kernel
theorem d_TP_init_16 : decode b_TP_init 16 = .ok (.new 9, 3) := by decide +kernel
theorem d_TP_init_19 : decode b_TP_init 19 = .ok (.dup, 1) := by decide +kernel
theorem d_TP_init_20 : decode b_TP_init 20 = .ok (.invokespecial 11, 3) := by decide +kernel
theorem d_TP_init_23 : decode b_TP_init 23 = .ok (.putfield 16, 3) := by decide +kernel
theorem d_TP_init_26 : decode b_TP_init 26 = .ok (.aload_n 0, 1) := by decide +kernel
theorem d_TP_init_27 : decode b_TP_init 27 = .ok (.new 9, 3) := by decide +kernel
theorem d_TP_init_30 : decode b_TP_init 30 = .ok (.dup, 1) := by decide +kernel
theorem d_TP_init_31 : decode b_TP_init 31 = .ok (.invokespecial 11, 3) := by decide +kernel
theorem d_TP_init_34 : decode b_TP_init 34 = .ok (.putfield 19, 3) := by decide +kernel
theorem d_TP_init_37 : decode b_TP_init 37 = .ok (.aload_n 0, 1) := by decide +kernel
theorem d_TP_init_38 : decode b_TP_init 38 = .ok (.iconst 0, 1) := by decide +kernel
theorem d_TP_init_39 : decode b_TP_init 39 = .ok (.putfield 22, 3) := by decide +kernel
theorem d_TP_init_42 : decode b_TP_init 42 = .ok (.aload_n 0, 1) := by decide +kernel
theorem d_TP_init_43 : decode b_TP_init 43 = .ok (.new 26, 3) := by decide +kernel
theorem d_TP_init_46 : decode b_TP_init 46 = .ok (.dup, 1) := by decide +kernel
theorem d_TP_init_47 : decode b_TP_init 47 = .ok (.aload_n 0, 1) := by decide +kernel
theorem d_TP_init_48 : decode b_TP_init 48 = .ok (.getfield 12, 3) := by decide +kernel
theorem d_TP_init_51 : decode b_TP_init 51 = .ok (.aload_n 0, 1) := by decide +kernel
theorem d_TP_init_52 : decode b_TP_init 52 = .ok (.getfield 16, 3) := by decide +kernel
theorem d_TP_init_55 : decode b_TP_init 55 = .ok (.invokespecial 28, 3) := by decide +kernel
theorem d_TP_init_58 : decode b_TP_init 58 = .ok (.putfield 31, 3) := by decide +kernel
theorem d_TP_init_61 : decode b_TP_init 61 = .ok (.aload_n 0, 1) := by decide +kernel
theorem d_TP_init_62 : decode b_TP_init 62 = .ok (.new 35, 3) := by decide +kernel
theorem d_TP_init_65 : decode b_TP_init 65 = .ok (.dup, 1) := by decide +kernel
theorem d_TP_init_66 : decode b_TP_init 66 = .ok (.invokespecial 37, 3) := by decide +kernel
theorem d_TP_init_69 : decode b_TP_init 69 = .ok (.putfield 38, 3) := by decide +kernel
theorem d_TP_init_72 : decode b_TP_init 72 = .ok (.aload_n 0, 1) := by decide +kernel
theorem d_TP_init_73 : decode b_TP_init 73 = .ok (.iconst 4, 1) := by decide +kernel
theorem d_TP_init_74 : decode b_TP_init 74 = .ok (.anewarray 42, 3) := by decide +kernel
theorem d_TP_init_77 : decode b_TP_init 77 = .ok (.putfield 44, 3) := by decide +kernel
theorem d_TP_init_80 : decode b_TP_init 80 = .ok (.aload_n 0, 1) := by decide +kernel
theorem d_TP_init_81 : decode b_TP_init 81 = .ok (.bipush 7, 2) := by decide +kernel
theorem d_TP_init_83 : decode b_TP_init 83 = .ok (.newarray .int, 2) := by decide +kernel
theorem d_TP_init_85 : decode b_TP_init 85 = .ok (.putfield 48, 3) := by decide +kernel
theorem d_TP_init_88 : decode b_TP_init 88 = .ok (.iconst 0, 1) := by decide +kernel
theorem d_TP_init_89 : decode b_TP_init 89 = .ok (.istore_n 1, 1) := by decide +kernel
theorem d_TP_init_90 : decode b_TP_init 90 = .ok (.iload_n 1, 1) := by decide +kernel
theorem d_TP_init_91 : decode b_TP_init 91 = .ok (.iconst 4, 1) := by decide +kernel
theorem d_TP_init_92 : decode b_TP_init 92 = .ok (.if_icmp .ge 22, 3) := by decide +kernel
theorem d_TP_init_95 : decode b_TP_init 95 = .ok (.aload_n 0, 1) := by decide +kernel
theorem d_TP_init_96 : decode b_TP_init 96 = .ok (.getfield 44, 3) := by decide +kernel
theorem d_TP_init_99 : decode b_TP_init 99 = .ok (.iload_n 1, 1) := by decide +kernel
theorem d_TP_init_100 : decode b_TP_init 100 = .ok (.new 42, 3) := by decide +kernel
theorem d_TP_init_103 : decode b_TP_init 103 = .ok (.dup, 1) := by decide +kernel
theorem d_TP_init_104 : decode b_TP_init 104 = .ok (.invokespecial 52, 3) := by decide +kernel
theorem d_TP_init_107 : decode b_TP_init 107 = .ok (.aastore, 1) := by decide +kernel
theorem d_TP_init_108 : decode b_TP_init 108 = .ok (.iinc 1 1, 3) := by decide +kernel
theorem d_TP_init_111 : decode b_TP_init 111 = .ok (.goto (-21), 3) := by decide +kernel
theorem d_TP_init_114 : decode b_TP_init 114 = .ok (.return_, 1) := by decide +kernel
theorem d_TP_guns_0 : decode b_TP_guns 0 = .ok (.iload_n 1, 1) := by decide +kernel
theorem d_TP_guns_1 : decode b_TP_guns 1 = .ok (.bipush 99, 2) := by decide +kernel
theorem d_TP_guns_3 : decode b_TP_guns 3 = .ok (.invokestatic 53, 3) := by decide +kernel
theorem d_TP_guns_6 : decode b_TP_guns 6 = .ok (.ifCond .ne 10, 3) := by decide +kernel
theorem d_TP_guns_9 : decode b_TP_guns 9 = .ok (.aload_n 0, 1) := by decide +kernel
theorem d_TP_guns_10 : decode b_TP_guns 10 = .ok (.ldc 57, 2) := by decide +kernel
theorem d_TP_guns_12 : decode b_TP_guns 12 = .ok (.invokevirtual 58, 3) := by decide +kernel
theorem d_TP_guns_15 : decode b_TP_guns 15 = .ok (.ireturn, 1) := by decide +kernel
theorem d_TP_guns_16 : decode b_TP_guns 16 = .ok (.aload_n 0, 1) := by decide +kernel
theorem d_TP_guns_17 : decode b_TP_guns 17 = .ok (.getfield 12, 3) := by decide +kernel
theorem d_TP_guns_20 : decode b_TP_guns 20 = .ok (.getfield 62, 3) := by decide +kernel
theorem d_TP_guns_23 : decode b_TP_guns 23 = .ok (.istore_n 2, 1) := by decide +kernel
theorem d_TP_guns_24 : decode b_TP_guns 24 = .ok (.aload_n 0, 1) := by decide +kernel
theorem d_TP_guns_25 : decode b_TP_guns 25 = .ok (.getfield 12, 3) := by decide +kernel
theorem d_TP_guns_28 : decode b_TP_guns 28 = .ok (.iload_n 1, 1) := by decide +kernel
theorem d_TP_guns_29 : decode b_TP_guns 29 = .ok (.putfield 62, 3) := by decide +kernel
theorem d_TP_guns_32 : decode b_TP_guns 32 = .ok (.iload_n 2, 1) := by decide +kernel
theorem d_TP_guns_33 : decode b_TP_guns 33 = .ok (.ireturn, 1) := by decide +kernel
theorem d_TP_place_0 : decode b_TP_place 0 = .ok (.iload_n 1, 1) := by decide +kernel
theorem d_TP_place_1 : decode b_TP_place 1 = .ok (.iconst 5, 1) := by decide +kernel
theorem d_TP_place_2 : decode b_TP_place 2 = .ok (.invokestatic 53, 3) := by decide +kernel
theorem d_TP_place_5 : decode b_TP_place 5 = .ok (.ifCond .eq 12, 3) := by decide +kernel
theorem d_TP_place_8 : decode b_TP_place 8 = .ok (.iload_n 2, 1) := by decide +kernel
theorem d_TP_place_9 : decode b_TP_place 9 = .ok (.bipush 15, 2) := by decide +kernel
theorem d_TP_place_11 : decode b_TP_place 11 = .ok (.invokestatic 53, 3) := by decide +kernel
theorem d_TP_place_14 : decode b_TP_place 14 = .ok (.ifCond .ne 10, 3) := by decide +kernel
theorem d_TP_place_17 : decode b_TP_place 17 = .ok (.aload_n 0, 1) := by decide +kernel
theorem d_TP_place_18 : decode b_TP_place 18 = .ok (.ldc 57, 2) := by decide +kernel
theorem d_TP_place_20 : decode b_TP_place 20 = .ok (.invokevirtual 58, 3) := by decide +kernel
theorem d_TP_place_23 : decode b_TP_place 23 = .ok (.ireturn, 1) := by decide +kernel
theorem d_TP_place_24 : decode b_TP_place 24 = .ok (.aload_n 0, 1) := by decide +kernel
theorem d_TP_place_25 : decode b_TP_place 25 = .ok (.getfield 12, 3) := by decide +kernel
theorem d_TP_place_28 : decode b_TP_place 28 = .ok (.getfield 66, 3) := by decide +kernel
theorem d_TP_place_31 : decode b_TP_place 31 = .ok (.iload_n 1, 1) := by decide +kernel
theorem d_TP_place_32 : decode b_TP_place 32 = .ok (.iaload, 1) := by decide +kernel
theorem d_TP_place_33 : decode b_TP_place 33 = .ok (.istore_n 3, 1) := by decide +kernel
theorem d_TP_place_34 : decode b_TP_place 34 = .ok (.aload_n 0, 1) := by decide +kernel
theorem d_TP_place_35 : decode b_TP_place 35 = .ok (.getfield 12, 3) := by decide +kernel
theorem d_TP_place_38 : decode b_TP_place 38 = .ok (.getfield 66, 3) := by decide +kernel
theorem d_TP_place_41 : decode b_TP_place 41 = .ok (.iload_n 1, 1) := by decide +kernel
theorem d_TP_place_42 : decode b_TP_place 42 = .ok (.iload_n 2, 1) := by decide +kernel
theorem d_TP_place_43 : decode b_TP_place 43 = .ok (.iastore, 1) := by decide +kernel
theorem d_TP_place_44 : decode b_TP_place 44 = .ok (.iload_n 3, 1) := by decide +kernel
theorem d_TP_place_45 : decode b_TP_place 45 = .ok (.ireturn, 1) := by decide +kernel
theorem d_TP_listed_0 : decode b_TP_listed 0 = .ok (.iload_n 1, 1) := by decide +kernel
theorem d_TP_listed_1 : decode b_TP_listed 1 = .ok (.iconst 5, 1) := by decide +kernel
theorem d_TP_listed_2 : decode b_TP_listed 2 = .ok (.invokestatic 53, 3) := by decide +kernel
theorem d_TP_listed_5 : decode b_TP_listed 5 = .ok (.ifCond .eq 15, 3) := by decide +kernel
theorem d_TP_listed_8 : decode b_TP_listed 8 = .ok (.aload_n 0, 1) := by decide +kernel
theorem d_TP_listed_9 : decode b_TP_listed 9 = .ok (.getfield 12, 3) := by decide +kernel
theorem d_TP_listed_12 : decode b_TP_listed 12 = .ok (.getfield 66, 3) := by decide +kernel
theorem d_TP_listed_15 : decode b_TP_listed 15 = .ok (.iload_n 1, 1) := by decide +kernel
theorem d_TP_listed_16 : decode b_TP_listed 16 = .ok (.iaload, 1) := by decide +kernel
theorem d_TP_listed_17 : decode b_TP_listed 17 = .ok (.goto 9, 3) := by decide +kernel
theorem d_TP_listed_20 : decode b_TP_listed 20 = .ok (.aload_n 0, 1) := by decide +kernel
theorem d_TP_listed_21 : decode b_TP_listed 21 = .ok (.ldc 57, 2) := by decide +kernel
theorem d_TP_listed_23 : decode b_TP_listed 23 = .ok (.invokevirtual 58, 3) := by decide +kernel
theorem d_TP_listed_26 : decode b_TP_listed 26 = .ok (.ireturn, 1) := by decide +kernel
theorem d_TP_person_0 : decode b_TP_person 0 = .ok (.iload_n 1, 1) := by decide +kernel
theorem d_TP_person_1 : decode b_TP_person 1 = .ok (.bipush 6, 2) := by decide +kernel
theorem d_TP_person_3 : decode b_TP_person 3 = .ok (.invokestatic 53, 3) := by decide +kernel
theorem d_TP_person_6 : decode b_TP_person 6 = .ok (.ifCond .eq 11, 3) := by decide +kernel
theorem d_TP_person_9 : decode b_TP_person 9 = .ok (.iload_n 2, 1) := by decide +kernel
theorem d_TP_person_10 : decode b_TP_person 10 = .ok (.iconst 1, 1) := by decide +kernel
theorem d_TP_person_11 : decode b_TP_person 11 = .ok (.invokestatic 53, 3) := by decide +kernel
theorem d_TP_person_14 : decode b_TP_person 14 = .ok (.ifCond .ne 10, 3) := by decide +kernel
theorem d_TP_person_17 : decode b_TP_person 17 = .ok (.aload_n 0, 1) := by decide +kernel
theorem d_TP_person_18 : decode b_TP_person 18 = .ok (.ldc 57, 2) := by decide +kernel
theorem d_TP_person_20 : decode b_TP_person 20 = .ok (.invokevirtual 58, 3) := by decide +kernel
theorem d_TP_person_23 : decode b_TP_person 23 = .ok (.ireturn, 1) := by decide +kernel
theorem d_TP_person_24 : decode b_TP_person 24 = .ok (.aload_n 0, 1) := by decide +kernel
theorem d_TP_person_25 : decode b_TP_person 25 = .ok (.getfield 12, 3) := by decide +kernel
theorem d_TP_person_28 : decode b_TP_person 28 = .ok (.invokevirtual 69, 3) := by decide +kernel
theorem d_TP_person_31 : decode b_TP_person 31 = .ok (.ifCond .eq 10, 3) := by decide +kernel
theorem d_TP_person_34 : decode b_TP_person 34 = .ok (.aload_n 0, 1) := by decide +kernel
theorem d_TP_person_35 : decode b_TP_person 35 = .ok (.ldc 73, 2) := by decide +kernel
theorem d_TP_person_37 : decode b_TP_person 37 = .ok (.invokevirtual 58, 3) := by decide +kernel
theorem d_TP_person_40 : decode b_TP_person 40 = .ok (.ireturn, 1) := by decide +kernel
theorem d_TP_person_41 : decode b_TP_person 41 = .ok (.aload_n 0, 1) := by decide +kernel
theorem d_TP_person_42 : decode b_TP_person 42 = .ok (.getfield 12, 3) := by decide +kernel
theorem d_TP_person_45 : decode b_TP_person 45 = .ok (.iload_n 1, 1) := by decide +kernel
theorem d_TP_person_46 : decode b_TP_person 46 = .ok (.iload_n 2, 1) := by decide +kernel
theorem d_TP_person_47 : decode b_TP_person 47 = .ok (.invokevirtual 74, 3) := by decide +kernel
theorem d_TP_person_50 : decode b_TP_person 50 = .ok (.ireturn, 1) := by decide +kernel
theorem d_TP_of_0 : decode b_TP_of 0 = .ok (.aload_n 0, 1) := by decide +kernel
theorem d_TP_of_1 : decode b_TP_of 1 = .ok (.getfield 12, 3) := by decide +kernel
theorem d_TP_of_4 : decode b_TP_of 4 = .ok (.iload_n 1, 1) := by decide +kernel
theorem d_TP_of_5 : decode b_TP_of 5 = .ok (.invokevirtual 78, 3) := by decide +kernel
theorem d_TP_of_8 : decode b_TP_of 8 = .ok (.ifCond .eq 12, 3) := by decide +kernel
theorem d_TP_of_11 : decode b_TP_of 11 = .ok (.iload_n 2, 1) := by decide +kernel
theorem d_TP_of_12 : decode b_TP_of 12 = .ok (.bipush 9, 2) := by decide +kernel
theorem d_TP_of_14 : decode b_TP_of 14 = .ok (.invokestatic 53, 3) := by decide +kernel
theorem d_TP_of_17 : decode b_TP_of 17 = .ok (.ifCond .ne 10, 3) := by decide +kernel
theorem d_TP_of_20 : decode b_TP_of 20 = .ok (.aload_n 0, 1) := by decide +kernel
theorem d_TP_of_21 : decode b_TP_of 21 = .ok (.ldc 57, 2) := by decide +kernel
theorem d_TP_of_23 : decode b_TP_of 23 = .ok (.invokevirtual 58, 3) := by decide +kernel
theorem d_TP_of_26 : decode b_TP_of 26 = .ok (.ireturn, 1) := by decide +kernel
theorem d_TP_of_27 : decode b_TP_of 27 = .ok (.aload_n 0, 1) := by decide +kernel
theorem d_TP_of_28 : decode b_TP_of 28 = .ok (.getfield 12, 3) := by decide +kernel
theorem d_TP_of_31 : decode b_TP_of 31 = .ok (.iload_n 1, 1) := by decide +kernel
theorem d_TP_of_32 : decode b_TP_of 32 = .ok (.iload_n 2, 1) := by decide +kernel
theorem d_TP_of_33 : decode b_TP_of 33 = .ok (.invokevirtual 82, 3) := by decide +kernel
theorem d_TP_of_36 : decode b_TP_of 36 = .ok (.ireturn, 1) := by decide +kernel
theorem d_TP_change_0 : decode b_TP_change 0 = .ok (.aload_n 0, 1) := by decide +kernel
theorem d_TP_change_1 : decode b_TP_change 1 = .ok (.getfield 12, 3) := by decide +kernel
theorem d_TP_change_4 : decode b_TP_change 4 = .ok (.iload_n 1, 1) := by decide +kernel
theorem d_TP_change_5 : decode b_TP_change 5 = .ok (.invokevirtual 78, 3) := by decide +kernel
theorem d_TP_change_8 : decode b_TP_change 8 = .ok (.ifCond .eq 23, 3) := by decide +kernel
theorem d_TP_change_11 : decode b_TP_change 11 = .ok (.iload_n 2, 1) := by decide +kernel
theorem d_TP_change_12 : decode b_TP_change 12 = .ok (.iconst 5, 1) := by decide +kernel
theorem d_TP_change_13 : decode b_TP_change 13 = .ok (.invokestatic 53, 3) := by decide +kernel
theorem d_TP_change_16 : decode b_TP_change 16 = .ok (.ifCond .eq 15, 3) := by decide +kernel
theorem d_TP_change_19 : decode b_TP_change 19 = .ok (.iload_n 3, 1) := by decide +kernel
theorem d_TP_change_20 : decode b_TP_change 20 = .ok (.getstatic 85, 3) := by decide +kernel
theorem d_TP_change_23 : decode b_TP_change 23 = .ok (.iload_n 2, 1) := by decide +kernel
theorem d_TP_change_24 : decode b_TP_change 24 = .ok (.iaload, 1) := by decide +kernel
theorem d_TP_change_25 : decode b_TP_change 25 = .ok (.invokestatic 53, 3) := by decide +kernel
theorem d_TP_change_28 : decode b_TP_change 28 = .ok (.ifCond .ne 10, 3) := by decide +kernel
theorem d_TP_change_31 : decode b_TP_change 31 = .ok (.aload_n 0, 1) := by decide +kernel
theorem d_TP_change_32 : decode b_TP_change 32 = .ok (.ldc 57, 2) := by decide +kernel
theorem d_TP_change_34 : decode b_TP_change 34 = .ok (.invokevirtual 58, 3) := by decide +kernel
theorem d_TP_change_37 : decode b_TP_change 37 = .ok (.ireturn, 1) := by decide +kernel
theorem d_TP_change_38 : decode b_TP_change 38 = .ok (.aload_n 0, 1) := by decide +kernel
theorem d_TP_change_39 : decode b_TP_change 39 = .ok (.getfield 12, 3) := by decide +kernel
theorem d_TP_change_42 : decode b_TP_change 42 = .ok (.iload_n 1, 1) := by decide +kernel
theorem d_TP_change_43 : decode b_TP_change 43 = .ok (.iload_n 2, 1) := by decide +kernel
theorem d_TP_change_44 : decode b_TP_change 44 = .ok (.invokevirtual 82, 3) := by decide +kernel
theorem d_TP_change_47 : decode b_TP_change 47 = .ok (.istore 4, 2) := by decide +kernel
theorem d_TP_change_49 : decode b_TP_change 49 = .ok (.aload_n 0, 1) := by decide +kernel
theorem d_TP_change_50 : decode b_TP_change 50 = .ok (.getfield 12, 3) := by decide +kernel
theorem d_TP_change_53 : decode b_TP_change 53 = .ok (.getfield 88, 3) := by decide +kernel
theorem d_TP_change_56 : decode b_TP_change 56 = .ok (.iload_n 1, 1) := by decide +kernel
theorem d_TP_change_57 : decode b_TP_change 57 = .ok (.aaload, 1) := by decide +kernel
theorem d_TP_change_58 : decode b_TP_change 58 = .ok (.iload_n 2, 1) := by decide +kernel
theorem d_TP_change_59 : decode b_TP_change 59 = .ok (.iload_n 3, 1) := by decide +kernel
theorem d_TP_change_60 : decode b_TP_change 60 = .ok (.invokevirtual 92, 3) := by decide +kernel
theorem d_TP_change_63 : decode b_TP_change 63 = .ok (.iload 4, 2) := by decide +kernel
theorem d_TP_change_65 : decode b_TP_change 65 = .ok (.ireturn, 1) := by decide +kernel
theorem d_TP_who_0 : decode b_TP_who 0 = .ok (.iload_n 1, 1) := by decide +kernel
theorem d_TP_who_1 : decode b_TP_who 1 = .ok (.bipush 15, 2) := by decide +kernel
theorem d_TP_who_3 : decode b_TP_who 3 = .ok (.invokestatic 53, 3) := by decide +kernel
theorem d_TP_who_6 : decode b_TP_who 6 = .ok (.ifCond .eq 14, 3) := by decide +kernel
theorem d_TP_who_9 : decode b_TP_who 9 = .ok (.aload_n 0, 1) := by decide +kernel
theorem d_TP_who_10 : decode b_TP_who 10 = .ok (.getfield 12, 3) := by decide +kernel
theorem d_TP_who_13 : decode b_TP_who 13 = .ok (.iload_n 1, 1) := by decide +kernel
theorem d_TP_who_14 : decode b_TP_who 14 = .ok (.invokevirtual 98, 3) := by decide +kernel
theorem d_TP_who_17 : decode b_TP_who 17 = .ok (.goto 9, 3) := by decide +kernel
theorem d_TP_who_20 : decode b_TP_who 20 = .ok (.aload_n 0, 1) := by decide +kernel
theorem d_TP_who_21 : decode b_TP_who 21 = .ok (.ldc 57, 2) := by decide +kernel
theorem d_TP_who_23 : decode b_TP_who 23 = .ok (.invokevirtual 58, 3) := by decide +kernel
theorem d_TP_who_26 : decode b_TP_who 26 = .ok (.ireturn, 1) := by decide +kernel
theorem d_TP_two_0 : decode b_TP_two 0 = .ok (.aload_n 0, 1) := by decide +kernel
theorem d_TP_two_1 : decode b_TP_two 1 = .ok (.getfield 12, 3) := by decide +kernel
theorem d_TP_two_4 : decode b_TP_two 4 = .ok (.iload_n 1, 1) := by decide +kernel
theorem d_TP_two_5 : decode b_TP_two 5 = .ok (.invokevirtual 78, 3) := by decide +kernel
theorem d_TP_two_8 : decode b_TP_two 8 = .ok (.ifCond .eq 19, 3) := by decide +kernel
theorem d_TP_two_11 : decode b_TP_two 11 = .ok (.aload_n 0, 1) := by decide +kernel
theorem d_TP_two_12 : decode b_TP_two 12 = .ok (.getfield 12, 3) := by decide +kernel
theorem d_TP_two_15 : decode b_TP_two 15 = .ok (.iload_n 2, 1) := by decide +kernel
theorem d_TP_two_16 : decode b_TP_two 16 = .ok (.invokevirtual 78, 3) := by decide +kernel
theorem d_TP_two_19 : decode b_TP_two 19 = .ok (.ifCond .eq 8, 3) := by decide +kernel
theorem d_TP_two_22 : decode b_TP_two 22 = .ok (.iload_n 1, 1) := by decide +kernel
theorem d_TP_two_23 : decode b_TP_two 23 = .ok (.iload_n 2, 1) := by decide +kernel
theorem d_TP_two_24 : decode b_TP_two 24 = .ok (.if_icmp .ne 10, 3) := by decide +kernel
theorem d_TP_two_27 : decode b_TP_two 27 = .ok (.aload_n 0, 1) := by decide +kernel
theorem d_TP_two_28 : decode b_TP_two 28 = .ok (.ldc 57, 2) := by decide +kernel
theorem d_TP_two_30 : decode b_TP_two 30 = .ok (.invokevirtual 58, 3) := by decide +kernel
theorem d_TP_two_33 : decode b_TP_two 33 = .ok (.ireturn, 1) := by decide +kernel
theorem d_TP_two_34 : decode b_TP_two 34 = .ok (.aload_n 0, 1) := by decide +kernel
theorem d_TP_two_35 : decode b_TP_two 35 = .ok (.getfield 12, 3) := by decide +kernel
theorem d_TP_two_38 : decode b_TP_two 38 = .ok (.getfield 88, 3) := by decide +kernel
theorem d_TP_two_41 : decode b_TP_two 41 = .ok (.iload_n 1, 1) := by decide +kernel
theorem d_TP_two_42 : decode b_TP_two 42 = .ok (.aaload, 1) := by decide +kernel
theorem d_TP_two_43 : decode b_TP_two 43 = .ok (.aload_n 0, 1) := by decide +kernel
theorem d_TP_two_44 : decode b_TP_two 44 = .ok (.getfield 12, 3) := by decide +kernel
theorem d_TP_two_47 : decode b_TP_two 47 = .ok (.getfield 88, 3) := by decide +kernel
theorem d_TP_two_50 : decode b_TP_two 50 = .ok (.iload_n 2, 1) := by decide +kernel
theorem d_TP_two_51 : decode b_TP_two 51 = .ok (.aaload, 1) := by decide +kernel
theorem d_TP_two_52 : decode b_TP_two 52 = .ok (.invokevirtual 101, 3) := by decide +kernel
theorem d_TP_two_55 : decode b_TP_two 55 = .ok (.ifCond .eq 7, 3) := by decide +kernel
theorem d_TP_two_58 : decode b_TP_two 58 = .ok (.iconst 1, 1) := by decide +kernel
theorem d_TP_two_59 : decode b_TP_two 59 = .ok (.goto 4, 3) := by decide +kernel
theorem d_TP_two_62 : decode b_TP_two 62 = .ok (.iconst 0, 1) := by decide +kernel
theorem d_TP_two_63 : decode b_TP_two 63 = .ok (.ireturn, 1) := by decide +kernel
theorem d_TP_go_0 : decode b_TP_go 0 = .ok (.iload_n 1, 1) := by decide +kernel
theorem d_TP_go_1 : decode b_TP_go 1 = .ok (.iconst 1, 1) := by decide +kernel
theorem d_TP_go_2 : decode b_TP_go 2 = .ok (.isub, 1) := by decide +kernel
theorem d_TP_go_3 : decode b_TP_go 3 = .ok (.bipush 59, 2) := by decide +kernel
theorem d_TP_go_5 : decode b_TP_go 5 = .ok (.invokestatic 53, 3) := by decide +kernel
theorem d_TP_go_8 : decode b_TP_go 8 = .ok (.ifCond .ne 10, 3) := by decide +kernel
theorem d_TP_go_11 : decode b_TP_go 11 = .ok (.aload_n 0, 1) := by decide +kernel
theorem d_TP_go_12 : decode b_TP_go 12 = .ok (.ldc 57, 2) := by decide +kernel
theorem d_TP_go_14 : decode b_TP_go 14 = .ok (.invokevirtual 58, 3) := by decide +kernel
theorem d_TP_go_17 : decode b_TP_go 17 = .ok (.ireturn, 1) := by decide +kernel
theorem d_TP_go_18 : decode b_TP_go 18 = .ok (.aload_n 0, 1) := by decide +kernel
theorem d_TP_go_19 : decode b_TP_go 19 = .ok (.getfield 12, 3) := by decide +kernel
theorem d_TP_go_22 : decode b_TP_go 22 = .ok (.iload_n 1, 1) := by decide +kernel
theorem d_TP_go_23 : decode b_TP_go 23 = .ok (.invokevirtual 105, 3) := by decide +kernel
theorem d_TP_go_26 : decode b_TP_go 26 = .ok (.ifCond .ne 10, 3) := by decide +kernel
theorem d_TP_go_29 : decode b_TP_go 29 = .ok (.aload_n 0, 1) := by decide +kernel
theorem d_TP_go_30 : decode b_TP_go 30 = .ok (.ldc 108, 2) := by decide +kernel
theorem d_TP_go_32 : decode b_TP_go 32 = .ok (.invokevirtual 58, 3) := by decide +kernel
theorem d_TP_go_35 : decode b_TP_go 35 = .ok (.ireturn, 1) := by decide +kernel
theorem d_TP_go_36 : decode b_TP_go 36 = .ok (.aload_n 0, 1) := by decide +kernel
theorem d_TP_go_37 : decode b_TP_go 37 = .ok (.getfield 12, 3) := by decide +kernel
theorem d_TP_go_40 : decode b_TP_go 40 = .ok (.iload_n 1, 1) := by decide +kernel
theorem d_TP_go_41 : decode b_TP_go 41 = .ok (.invokevirtual 109, 3) := by decide +kernel
theorem d_TP_go_44 : decode b_TP_go 44 = .ok (.aload_n 0, 1) := by decide +kernel
theorem d_TP_go_45 : decode b_TP_go 45 = .ok (.getfield 12, 3) := by decide +kernel
theorem d_TP_go_48 : decode b_TP_go 48 = .ok (.getfield 62, 3) := by decide +kernel
theorem d_TP_go_51 : decode b_TP_go 51 = .ok (.ireturn, 1) := by decide +kernel
theorem d_TP_now_0 : decode b_TP_now 0 = .ok (.iload_n 1, 1) := by decide +kernel
theorem d_TP_now_1 : decode b_TP_now 1 = .ok (.tableswitch 111 0 7 #[47, 55, 63, 71, 79, 87, 95, 103], 47) := by decide +kernel
theorem d_TP_now_48 : decode b_TP_now 48 = .ok (.aload_n 0, 1) := by decide +kernel
theorem d_TP_now_49 : decode b_TP_now 49 = .ok (.getfield 12, 3) := by decide +kernel
theorem d_TP_now_52 : decode b_TP_now 52 = .ok (.getfield 113, 3) := by decide +kernel
theorem d_TP_now_55 : decode b_TP_now 55 = .ok (.ireturn, 1) := by decide +kernel
theorem d_TP_now_56 : decode b_TP_now 56 = .ok (.aload_n 0, 1) := by decide +kernel
theorem d_TP_now_57 : decode b_TP_now 57 = .ok (.getfield 12, 3) := by decide +kernel
theorem d_TP_now_60 : decode b_TP_now 60 = .ok (.getfield 62, 3) := by decide +kernel
theorem d_TP_now_63 : decode b_TP_now 63 = .ok (.ireturn, 1) := by decide +kernel
theorem d_TP_now_64 : decode b_TP_now 64 = .ok (.aload_n 0, 1) := by decide +kernel
theorem d_TP_now_65 : decode b_TP_now 65 = .ok (.getfield 12, 3) := by decide +kernel
theorem d_TP_now_68 : decode b_TP_now 68 = .ok (.invokevirtual 116, 3) := by decide +kernel
theorem d_TP_now_71 : decode b_TP_now 71 = .ok (.ireturn, 1) := by decide +kernel
theorem d_TP_now_72 : decode b_TP_now 72 = .ok (.aload_n 0, 1) := by decide +kernel
theorem d_TP_now_73 : decode b_TP_now 73 = .ok (.getfield 12, 3) := by decide +kernel
theorem d_TP_now_76 : decode b_TP_now 76 = .ok (.invokevirtual 120, 3) := by decide +kernel
theorem d_TP_now_79 : decode b_TP_now 79 = .ok (.ireturn, 1) := by decide +kernel
theorem d_TP_now_80 : decode b_TP_now 80 = .ok (.aload_n 0, 1) := by decide +kernel
theorem d_TP_now_81 : decode b_TP_now 81 = .ok (.getfield 12, 3) := by decide +kernel
theorem d_TP_now_84 : decode b_TP_now 84 = .ok (.invokevirtual 123, 3) := by decide +kernel
theorem d_TP_now_87 : decode b_TP_now 87 = .ok (.ireturn, 1) := by decide +kernel
theorem d_TP_now_88 : decode b_TP_now 88 = .ok (.aload_n 0, 1) := by decide +kernel
theorem d_TP_now_89 : decode b_TP_now 89 = .ok (.getfield 12, 3) := by decide +kernel
theorem d_TP_now_92 : decode b_TP_now 92 = .ok (.invokevirtual 126, 3) := by decide +kernel
theorem d_TP_now_95 : decode b_TP_now 95 = .ok (.ireturn, 1) := by decide +kernel
theorem d_TP_now_96 : decode b_TP_now 96 = .ok (.aload_n 0, 1) := by decide +kernel
theorem d_TP_now_97 : decode b_TP_now 97 = .ok (.getfield 12, 3) := by decide +kernel
theorem d_TP_now_100 : decode b_TP_now 100 = .ok (.invokevirtual 129, 3) := by decide +kernel
theorem d_TP_now_103 : decode b_TP_now 103 = .ok (.ireturn, 1) := by decide +kernel
theorem d_TP_now_104 : decode b_TP_now 104 = .ok (.aload_n 0, 1) := by decide +kernel
theorem d_TP_now_105 : decode b_TP_now 105 = .ok (.getfield 12, 3) := by decide +kernel
theorem d_TP_now_108 : decode b_TP_now 108 = .ok (.invokevirtual 132, 3) := by decide +kernel
theorem d_TP_now_111 : decode b_TP_now 111 = .ok (.ireturn, 1) := by decide +kernel
theorem d_TP_now_112 : decode b_TP_now 112 = .ok (.aload_n 0, 1) := by decide +kernel
theorem d_TP_now_113 : decode b_TP_now 113 = .ok (.ldc 57, 2) := by decide +kernel
theorem d_TP_now_115 : decode b_TP_now 115 = .ok (.invokevirtual 58, 3) := by decide +kernel
theorem d_TP_now_118 : decode b_TP_now 118 = .ok (.ireturn, 1) := by decide +kernel
theorem d_TP_ahead_0 : decode b_TP_ahead 0 = .ok (.iload_n 2, 1) := by decide +kernel
theorem d_TP_ahead_1 : decode b_TP_ahead 1 = .ok (.iconst 2, 1) := by decide +kernel
theorem d_TP_ahead_2 : decode b_TP_ahead 2 = .ok (.if_icmp .eq 19, 3) := by decide +kernel
theorem d_TP_ahead_5 : decode b_TP_ahead 5 = .ok (.iload_n 2, 1) := by decide +kernel
theorem d_TP_ahead_6 : decode b_TP_ahead 6 = .ok (.iconst 3, 1) := by decide +kernel
theorem d_TP_ahead_7 : decode b_TP_ahead 7 = .ok (.if_icmp .eq 14, 3) := by decide +kernel
theorem d_TP_ahead_10 : decode b_TP_ahead 10 = .ok (.iload_n 2, 1) := by decide +kernel
theorem d_TP_ahead_11 : decode b_TP_ahead 11 = .ok (.iconst 5, 1) := by decide +kernel
theorem d_TP_ahead_12 : decode b_TP_ahead 12 = .ok (.if_icmp .eq 9, 3) := by decide +kernel
theorem d_TP_ahead_15 : decode b_TP_ahead 15 = .ok (.iload_n 2, 1) := by decide +kernel
theorem d_TP_ahead_16 : decode b_TP_ahead 16 = .ok (.bipush 7, 2) := by decide +kernel
theorem d_TP_ahead_18 : decode b_TP_ahead 18 = .ok (.if_icmp .ne 7, 3) := by decide +kernel
theorem d_TP_ahead_21 : decode b_TP_ahead 21 = .ok (.iconst 1, 1) := by decide +kernel
theorem d_TP_ahead_22 : decode b_TP_ahead 22 = .ok (.goto 4, 3) := by decide +kernel
theorem d_TP_ahead_25 : decode b_TP_ahead 25 = .ok (.iconst 0, 1) := by decide +kernel
theorem d_TP_ahead_26 : decode b_TP_ahead 26 = .ok (.istore 4, 2) := by decide +kernel
theorem d_TP_ahead_28 : decode b_TP_ahead 28 = .ok (.aload_n 0, 1) := by decide +kernel
theorem d_TP_ahead_29 : decode b_TP_ahead 29 = .ok (.getfield 12, 3) := by decide +kernel
theorem d_TP_ahead_32 : decode b_TP_ahead 32 = .ok (.iload_n 1, 1) := by decide +kernel
theorem d_TP_ahead_33 : decode b_TP_ahead 33 = .ok (.invokevirtual 78, 3) := by decide +kernel
theorem d_TP_ahead_36 : decode b_TP_ahead 36 = .ok (.ifCond .eq 17, 3) := by decide +kernel
theorem d_TP_ahead_39 : decode b_TP_ahead 39 = .ok (.iload 4, 2) := by decide +kernel
theorem d_TP_ahead_41 : decode b_TP_ahead 41 = .ok (.ifCond .eq 12, 3) := by decide +kernel
theorem d_TP_ahead_44 : decode b_TP_ahead 44 = .ok (.iload_n 3, 1) := by decide +kernel
theorem d_TP_ahead_45 : decode b_TP_ahead 45 = .ok (.bipush 100, 2) := by decide +kernel
theorem d_TP_ahead_47 : decode b_TP_ahead 47 = .ok (.invokestatic 53, 3) := by decide +kernel
theorem d_TP_ahead_50 : decode b_TP_ahead 50 = .ok (.ifCond .ne 10, 3) := by decide +kernel
theorem d_TP_ahead_53 : decode b_TP_ahead 53 = .ok (.aload_n 0, 1) := by decide +kernel
theorem d_TP_ahead_54 : decode b_TP_ahead 54 = .ok (.ldc 57, 2) := by decide +kernel
theorem d_TP_ahead_56 : decode b_TP_ahead 56 = .ok (.invokevirtual 58, 3) := by decide +kernel
theorem d_TP_ahead_59 : decode b_TP_ahead 59 = .ok (.ireturn, 1) := by decide +kernel
theorem d_TP_ahead_60 : decode b_TP_ahead 60 = .ok (.aload_n 0, 1) := by decide +kernel
theorem d_TP_ahead_61 : decode b_TP_ahead 61 = .ok (.getfield 31, 3) := by decide +kernel
theorem d_TP_ahead_64 : decode b_TP_ahead 64 = .ok (.iload_n 3, 1) := by decide +kernel
theorem d_TP_ahead_65 : decode b_TP_ahead 65 = .ok (.invokevirtual 135, 3) := by decide +kernel
theorem d_TP_ahead_68 : decode b_TP_ahead 68 = .ok (.iload_n 1, 1) := by decide +kernel
theorem d_TP_ahead_69 : decode b_TP_ahead 69 = .ok (.iload_n 2, 1) := by decide +kernel
theorem d_TP_ahead_70 : decode b_TP_ahead 70 = .ok (.invokevirtual 82, 3) := by decide +kernel
theorem d_TP_ahead_73 : decode b_TP_ahead 73 = .ok (.ireturn, 1) := by decide +kernel
theorem d_TP_noise_0 : decode b_TP_noise 0 = .ok (.iload_n 1, 1) := by decide +kernel
theorem d_TP_noise_1 : decode b_TP_noise 1 = .ok (.bipush 100, 2) := by decide +kernel
theorem d_TP_noise_3 : decode b_TP_noise 3 = .ok (.invokestatic 53, 3) := by decide +kernel
theorem d_TP_noise_6 : decode b_TP_noise 6 = .ok (.ifCond .eq 17, 3) := by decide +kernel
theorem d_TP_noise_9 : decode b_TP_noise 9 = .ok (.aload_n 0, 1) := by decide +kernel
theorem d_TP_noise_10 : decode b_TP_noise 10 = .ok (.getfield 31, 3) := by decide +kernel
theorem d_TP_noise_13 : decode b_TP_noise 13 = .ok (.iload_n 1, 1) := by decide +kernel
theorem d_TP_noise_14 : decode b_TP_noise 14 = .ok (.invokevirtual 135, 3) := by decide +kernel
theorem d_TP_noise_17 : decode b_TP_noise 17 = .ok (.getfield 62, 3) := by decide +kernel
theorem d_TP_noise_20 : decode b_TP_noise 20 = .ok (.goto 9, 3) := by decide +kernel
theorem d_TP_noise_23 : decode b_TP_noise 23 = .ok (.aload_n 0, 1) := by decide +kernel
theorem d_TP_noise_24 : decode b_TP_noise 24 = .ok (.ldc 57, 2) := by decide +kernel
theorem d_TP_noise_26 : decode b_TP_noise 26 = .ok (.invokevirtual 58, 3) := by decide +kernel
theorem d_TP_noise_29 : decode b_TP_noise 29 = .ok (.ireturn, 1) := by decide +kernel
theorem d_TP_stills_0 : decode b_TP_stills 0 = .ok (.iload_n 1, 1) := by decide +kernel
theorem d_TP_stills_1 : decode b_TP_stills 1 = .ok (.bipush 99, 2) := by decide +kernel
theorem d_TP_stills_3 : decode b_TP_stills 3 = .ok (.invokestatic 53, 3) := by decide +kernel
theorem d_TP_stills_6 : decode b_TP_stills 6 = .ok (.ifCond .eq 18, 3) := by decide +kernel
theorem d_TP_stills_9 : decode b_TP_stills 9 = .ok (.aload_n 0, 1) := by decide +kernel
theorem d_TP_stills_10 : decode b_TP_stills 10 = .ok (.aload_n 0, 1) := by decide +kernel
theorem d_TP_stills_11 : decode b_TP_stills 11 = .ok (.getfield 31, 3) := by decide +kernel
theorem d_TP_stills_14 : decode b_TP_stills 14 = .ok (.iload_n 1, 1) := by decide +kernel
theorem d_TP_stills_15 : decode b_TP_stills 15 = .ok (.invokevirtual 139, 3) := by decide +kernel
theorem d_TP_stills_18 : decode b_TP_stills 18 = .ok (.invokevirtual 142, 3) := by decide +kernel
theorem d_TP_stills_21 : decode b_TP_stills 21 = .ok (.goto 9, 3) := by decide +kernel
theorem d_TP_stills_24 : decode b_TP_stills 24 = .ok (.aload_n 0, 1) := by decide +kernel
theorem d_TP_stills_25 : decode b_TP_stills 25 = .ok (.ldc 57, 2) := by decide +kernel
theorem d_TP_stills_27 : decode b_TP_stills 27 = .ok (.invokevirtual 58, 3) := by decide +kernel
theorem d_TP_stills_30 : decode b_TP_stills 30 = .ok (.ireturn, 1) := by decide +kernel
theorem d_TP_meets_0 : decode b_TP_meets 0 = .ok (.aload_n 0, 1) := by decide +kernel
theorem d_TP_meets_1 : decode b_TP_meets 1 = .ok (.getfield 12, 3) := by decide +kernel
theorem d_TP_meets_4 : decode b_TP_meets 4 = .ok (.iload_n 1, 1) := by decide +kernel
theorem d_TP_meets_5 : decode b_TP_meets 5 = .ok (.invokevirtual 78, 3) := by decide +kernel
theorem d_TP_meets_8 : decode b_TP_meets 8 = .ok (.ifCond .eq 15, 3) := by decide +kernel
theorem d_TP_meets_11 : decode b_TP_meets 11 = .ok (.iload_n 2, 1) := by decide +kernel
theorem d_TP_meets_12 : decode b_TP_meets 12 = .ok (.getstatic 85, 3) := by decide +kernel
theorem d_TP_meets_15 : decode b_TP_meets 15 = .ok (.iconst 5, 1) := by decide +kernel
theorem d_TP_meets_16 : decode b_TP_meets 16 = .ok (.iaload, 1) := by decide +kernel
theorem d_TP_meets_17 : decode b_TP_meets 17 = .ok (.invokestatic 53, 3) := by decide +kernel
theorem d_TP_meets_20 : decode b_TP_meets 20 = .ok (.ifCond .ne 10, 3) := by decide +kernel
theorem d_TP_meets_23 : decode b_TP_meets 23 = .ok (.aload_n 0, 1) := by decide +kernel
theorem d_TP_meets_24 : decode b_TP_meets 24 = .ok (.ldc 57, 2) := by decide +kernel
theorem d_TP_meets_26 : decode b_TP_meets 26 = .ok (.invokevirtual 58, 3) := by decide +kernel
theorem d_TP_meets_29 : decode b_TP_meets 29 = .ok (.ireturn, 1) := by decide +kernel
theorem d_TP_meets_30 : decode b_TP_meets 30 = .ok (.aload_n 0, 1) := by decide +kernel
theorem d_TP_meets_31 : decode b_TP_meets 31 = .ok (.aload_n 0, 1) := by decide +kernel
theorem d_TP_meets_32 : decode b_TP_meets 32 = .ok (.getfield 31, 3) := by decide +kernel
theorem d_TP_meets_35 : decode b_TP_meets 35 = .ok (.iload_n 1, 1) := by decide +kernel
theorem d_TP_meets_36 : decode b_TP_meets 36 = .ok (.iload_n 2, 1) := by decide +kernel
theorem d_TP_meets_37 : decode b_TP_meets 37 = .ok (.invokevirtual 145, 3) := by decide +kernel
theorem d_TP_meets_40 : decode b_TP_meets 40 = .ok (.invokevirtual 142, 3) := by decide +kernel
theorem d_TP_meets_43 : decode b_TP_meets 43 = .ok (.ireturn, 1) := by decide +kernel
theorem d_TP_lapses_0 : decode b_TP_lapses 0 = .ok (.aload_n 0, 1) := by decide +kernel
theorem d_TP_lapses_1 : decode b_TP_lapses 1 = .ok (.aload_n 0, 1) := by decide +kernel
theorem d_TP_lapses_2 : decode b_TP_lapses 2 = .ok (.getfield 31, 3) := by decide +kernel
theorem d_TP_lapses_5 : decode b_TP_lapses 5 = .ok (.invokevirtual 148, 3) := by decide +kernel
theorem d_TP_lapses_8 : decode b_TP_lapses 8 = .ok (.invokevirtual 142, 3) := by decide +kernel
theorem d_TP_lapses_11 : decode b_TP_lapses 11 = .ok (.ireturn, 1) := by decide +kernel
theorem d_TP_placeFor_0 : decode b_TP_placeFor 0 = .ok (.iload_n 1, 1) := by decide +kernel
theorem d_TP_placeFor_1 : decode b_TP_placeFor 1 = .ok (.iconst 5, 1) := by decide +kernel
theorem d_TP_placeFor_2 : decode b_TP_placeFor 2 = .ok (.invokestatic 53, 3) := by decide +kernel
theorem d_TP_placeFor_5 : decode b_TP_placeFor 5 = .ok (.ifCond .eq 12, 3) := by decide +kernel
theorem d_TP_placeFor_8 : decode b_TP_placeFor 8 = .ok (.iload_n 2, 1) := by decide +kernel
theorem d_TP_placeFor_9 : decode b_TP_placeFor 9 = .ok (.bipush 40, 2) := by decide +kernel
theorem d_TP_placeFor_11 : decode b_TP_placeFor 11 = .ok (.invokestatic 53, 3) := by decide +kernel
theorem d_TP_placeFor_14 : decode b_TP_placeFor 14 = .ok (.ifCond .ne 10, 3) := by decide +kernel
theorem d_TP_placeFor_17 : decode b_TP_placeFor 17 = .ok (.aload_n 0, 1) := by decide +kernel
theorem d_TP_placeFor_18 : decode b_TP_placeFor 18 = .ok (.ldc 57, 2) := by decide +kernel
theorem d_TP_placeFor_20 : decode b_TP_placeFor 20 = .ok (.invokevirtual 58, 3) := by decide +kernel
theorem d_TP_placeFor_23 : decode b_TP_placeFor 23 = .ok (.ireturn, 1) := by decide +kernel
theorem d_TP_placeFor_24 : decode b_TP_placeFor 24 = .ok (.aload_n 0, 1) := by decide +kernel
theorem d_TP_placeFor_25 : decode b_TP_placeFor 25 = .ok (.getfield 31, 3) := by decide +kernel
theorem d_TP_placeFor_28 : decode b_TP_placeFor 28 = .ok (.iload_n 1, 1) := by decide +kernel
theorem d_TP_placeFor_29 : decode b_TP_placeFor 29 = .ok (.iload_n 2, 1) := by decide +kernel
theorem d_TP_placeFor_30 : decode b_TP_placeFor 30 = .ok (.invokevirtual 151, 3) := by decide +kernel
theorem d_TP_placeFor_33 : decode b_TP_placeFor 33 = .ok (.ireturn, 1) := by decide +kernel
theorem d_TP_kindFor_0 : decode b_TP_kindFor 0 = .ok (.aload_n 0, 1) := by decide +kernel
theorem d_TP_kindFor_1 : decode b_TP_kindFor 1 = .ok (.getfield 12, 3) := by decide +kernel
theorem d_TP_kindFor_4 : decode b_TP_kindFor 4 = .ok (.iload_n 1, 1) := by decide +kernel
theorem d_TP_kindFor_5 : decode b_TP_kindFor 5 = .ok (.invokevirtual 78, 3) := by decide +kernel
theorem d_TP_kindFor_8 : decode b_TP_kindFor 8 = .ok (.ifCond .eq 12, 3) := by decide +kernel
theorem d_TP_kindFor_11 : decode b_TP_kindFor 11 = .ok (.iload_n 2, 1) := by decide +kernel
theorem d_TP_kindFor_12 : decode b_TP_kindFor 12 = .ok (.bipush 40, 2) := by decide +kernel
theorem d_TP_kindFor_14 : decode b_TP_kindFor 14 = .ok (.invokestatic 53, 3) := by decide +kernel
theorem d_TP_kindFor_17 : decode b_TP_kindFor 17 = .ok (.ifCond .ne 10, 3) := by decide +kernel
theorem d_TP_kindFor_20 : decode b_TP_kindFor 20 = .ok (.aload_n 0, 1) := by decide +kernel
theorem d_TP_kindFor_21 : decode b_TP_kindFor 21 = .ok (.ldc 57, 2) := by decide +kernel
theorem d_TP_kindFor_23 : decode b_TP_kindFor 23 = .ok (.invokevirtual 58, 3) := by decide +kernel
theorem d_TP_kindFor_26 : decode b_TP_kindFor 26 = .ok (.ireturn, 1) := by decide +kernel
theorem d_TP_kindFor_27 : decode b_TP_kindFor 27 = .ok (.aload_n 0, 1) := by decide +kernel
theorem d_TP_kindFor_28 : decode b_TP_kindFor 28 = .ok (.getfield 31, 3) := by decide +kernel
theorem d_TP_kindFor_31 : decode b_TP_kindFor 31 = .ok (.iload_n 1, 1) := by decide +kernel
theorem d_TP_kindFor_32 : decode b_TP_kindFor 32 = .ok (.iload_n 2, 1) := by decide +kernel
theorem d_TP_kindFor_33 : decode b_TP_kindFor 33 = .ok (.invokevirtual 154, 3) := by decide +kernel
theorem d_TP_kindFor_36 : decode b_TP_kindFor 36 = .ok (.ireturn, 1) := by decide +kernel
theorem d_TP_seasonFor_0 : decode b_TP_seasonFor 0 = .ok (.aload_n 0, 1) := by decide +kernel
theorem d_TP_seasonFor_1 : decode b_TP_seasonFor 1 = .ok (.getfield 12, 3) := by decide +kernel
theorem d_TP_seasonFor_4 : decode b_TP_seasonFor 4 = .ok (.iload_n 1, 1) := by decide +kernel
theorem d_TP_seasonFor_5 : decode b_TP_seasonFor 5 = .ok (.invokevirtual 78, 3) := by decide +kernel
theorem d_TP_seasonFor_8 : decode b_TP_seasonFor 8 = .ok (.ifCond .eq 24, 3) := by decide +kernel
theorem d_TP_seasonFor_11 : decode b_TP_seasonFor 11 = .ok (.iload_n 2, 1) := by decide +kernel
theorem d_TP_seasonFor_12 : decode b_TP_seasonFor 12 = .ok (.getstatic 85, 3) := by decide +kernel
theorem d_TP_seasonFor_15 : decode b_TP_seasonFor 15 = .ok (.iconst 5, 1) := by decide +kernel
theorem d_TP_seasonFor_16 : decode b_TP_seasonFor 16 = .ok (.iaload, 1) := by decide +kernel
theorem d_TP_seasonFor_17 : decode b_TP_seasonFor 17 = .ok (.invokestatic 53, 3) := by decide +kernel
theorem d_TP_seasonFor_20 : decode b_TP_seasonFor 20 = .ok (.ifCond .eq 12, 3) := by decide +kernel
theorem d_TP_seasonFor_23 : decode b_TP_seasonFor 23 = .ok (.iload_n 3, 1) := by decide +kernel
theorem d_TP_seasonFor_24 : decode b_TP_seasonFor 24 = .ok (.bipush 40, 2) := by decide +kernel
theorem d_TP_seasonFor_26 : decode b_TP_seasonFor 26 = .ok (.invokestatic 53, 3) := by decide +kernel
theorem d_TP_seasonFor_29 : decode b_TP_seasonFor 29 = .ok (.ifCond .ne 10, 3) := by decide +kernel
theorem d_TP_seasonFor_32 : decode b_TP_seasonFor 32 = .ok (.aload_n 0, 1) := by decide +kernel
theorem d_TP_seasonFor_33 : decode b_TP_seasonFor 33 = .ok (.ldc 57, 2) := by decide +kernel
theorem d_TP_seasonFor_35 : decode b_TP_seasonFor 35 = .ok (.invokevirtual 58, 3) := by decide +kernel
theorem d_TP_seasonFor_38 : decode b_TP_seasonFor 38 = .ok (.ireturn, 1) := by decide +kernel
theorem d_TP_seasonFor_39 : decode b_TP_seasonFor 39 = .ok (.aload_n 0, 1) := by decide +kernel
theorem d_TP_seasonFor_40 : decode b_TP_seasonFor 40 = .ok (.aload_n 0, 1) := by decide +kernel
theorem d_TP_seasonFor_41 : decode b_TP_seasonFor 41 = .ok (.getfield 31, 3) := by decide +kernel
theorem d_TP_seasonFor_44 : decode b_TP_seasonFor 44 = .ok (.iload_n 1, 1) := by decide +kernel
theorem d_TP_seasonFor_45 : decode b_TP_seasonFor 45 = .ok (.iload_n 2, 1) := by decide +kernel
theorem d_TP_seasonFor_46 : decode b_TP_seasonFor 46 = .ok (.iload_n 3, 1) := by decide +kernel
theorem d_TP_seasonFor_47 : decode b_TP_seasonFor 47 = .ok (.invokevirtual 157, 3) := by decide +kernel
theorem d_TP_seasonFor_50 : decode b_TP_seasonFor 50 = .ok (.invokevirtual 142, 3) := by decide +kernel
theorem d_TP_seasonFor_53 : decode b_TP_seasonFor 53 = .ok (.ireturn, 1) := by decide +kernel
theorem d_TP_bagsFor_0 : decode b_TP_bagsFor 0 = .ok (.aload_n 0, 1) := by decide +kernel
theorem d_TP_bagsFor_1 : decode b_TP_bagsFor 1 = .ok (.getfield 12, 3) := by decide +kernel
theorem d_TP_bagsFor_4 : decode b_TP_bagsFor 4 = .ok (.iload_n 1, 1) := by decide +kernel
theorem d_TP_bagsFor_5 : decode b_TP_bagsFor 5 = .ok (.invokevirtual 78, 3) := by decide +kernel
theorem d_TP_bagsFor_8 : decode b_TP_bagsFor 8 = .ok (.ifCond .eq 12, 3) := by decide +kernel
theorem d_TP_bagsFor_11 : decode b_TP_bagsFor 11 = .ok (.iload_n 2, 1) := by decide +kernel
theorem d_TP_bagsFor_12 : decode b_TP_bagsFor 12 = .ok (.bipush 40, 2) := by decide +kernel
theorem d_TP_bagsFor_14 : decode b_TP_bagsFor 14 = .ok (.invokestatic 53, 3) := by decide +kernel
theorem d_TP_bagsFor_17 : decode b_TP_bagsFor 17 = .ok (.ifCond .ne 10, 3) := by decide +kernel
theorem d_TP_bagsFor_20 : decode b_TP_bagsFor 20 = .ok (.aload_n 0, 1) := by decide +kernel
theorem d_TP_bagsFor_21 : decode b_TP_bagsFor 21 = .ok (.ldc 57, 2) := by decide +kernel
theorem d_TP_bagsFor_23 : decode b_TP_bagsFor 23 = .ok (.invokevirtual 58, 3) := by decide +kernel
theorem d_TP_bagsFor_26 : decode b_TP_bagsFor 26 = .ok (.ireturn, 1) := by decide +kernel
theorem d_TP_bagsFor_27 : decode b_TP_bagsFor 27 = .ok (.aload_n 0, 1) := by decide +kernel
theorem d_TP_bagsFor_28 : decode b_TP_bagsFor 28 = .ok (.aload_n 0, 1) := by decide +kernel
theorem d_TP_bagsFor_29 : decode b_TP_bagsFor 29 = .ok (.getfield 31, 3) := by decide +kernel
theorem d_TP_bagsFor_32 : decode b_TP_bagsFor 32 = .ok (.iload_n 1, 1) := by decide +kernel
theorem d_TP_bagsFor_33 : decode b_TP_bagsFor 33 = .ok (.iload_n 2, 1) := by decide +kernel
theorem d_TP_bagsFor_34 : decode b_TP_bagsFor 34 = .ok (.invokevirtual 161, 3) := by decide +kernel
theorem d_TP_bagsFor_37 : decode b_TP_bagsFor 37 = .ok (.invokevirtual 142, 3) := by decide +kernel
theorem d_TP_bagsFor_40 : decode b_TP_bagsFor 40 = .ok (.ireturn, 1) := by decide +kernel
theorem d_TP_leaveOut_0 : decode b_TP_leaveOut 0 = .ok (.iload_n 1, 1) := by decide +kernel
theorem d_TP_leaveOut_1 : decode b_TP_leaveOut 1 = .ok (.bipush 20, 2) := by decide +kernel
theorem d_TP_leaveOut_3 : decode b_TP_leaveOut 3 = .ok (.invokestatic 53, 3) := by decide +kernel
theorem d_TP_leaveOut_6 : decode b_TP_leaveOut 6 = .ok (.ifCond .eq 18, 3) := by decide +kernel
theorem d_TP_leaveOut_9 : decode b_TP_leaveOut 9 = .ok (.aload_n 0, 1) := by decide +kernel
theorem d_TP_leaveOut_10 : decode b_TP_leaveOut 10 = .ok (.aload_n 0, 1) := by decide +kernel
theorem d_TP_leaveOut_11 : decode b_TP_leaveOut 11 = .ok (.getfield 31, 3) := by decide +kernel
theorem d_TP_leaveOut_14 : decode b_TP_leaveOut 14 = .ok (.iload_n 1, 1) := by decide +kernel
theorem d_TP_leaveOut_15 : decode b_TP_leaveOut 15 = .ok (.invokevirtual 164, 3) := by decide +kernel
theorem d_TP_leaveOut_18 : decode b_TP_leaveOut 18 = .ok (.invokevirtual 142, 3) := by decide +kernel
theorem d_TP_leaveOut_21 : decode b_TP_leaveOut 21 = .ok (.goto 9, 3) := by decide +kernel
theorem d_TP_leaveOut_24 : decode b_TP_leaveOut 24 = .ok (.aload_n 0, 1) := by decide +kernel
theorem d_TP_leaveOut_25 : decode b_TP_leaveOut 25 = .ok (.ldc 57, 2) := by decide +kernel
theorem d_TP_leaveOut_27 : decode b_TP_leaveOut 27 = .ok (.invokevirtual 58, 3) := by decide +kernel
theorem d_TP_leaveOut_30 : decode b_TP_leaveOut 30 = .ok (.ireturn, 1) := by decide +kernel
theorem d_TP_fits_0 : decode b_TP_fits 0 = .ok (.aload_n 0, 1) := by decide +kernel
theorem d_TP_fits_1 : decode b_TP_fits 1 = .ok (.iload_n 1, 1) := by decide +kernel
theorem d_TP_fits_2 : decode b_TP_fits 2 = .ok (.iload_n 2, 1) := by decide +kernel
theorem d_TP_fits_3 : decode b_TP_fits 3 = .ok (.invokevirtual 167, 3) := by decide +kernel
theorem d_TP_fits_6 : decode b_TP_fits 6 = .ok (.istore_n 3, 1) := by decide +kernel
theorem d_TP_fits_7 : decode b_TP_fits 7 = .ok (.iload_n 3, 1) := by decide +kernel
theorem d_TP_fits_8 : decode b_TP_fits 8 = .ok (.ifCond .ge 11, 3) := by decide +kernel
theorem d_TP_fits_11 : decode b_TP_fits 11 = .ok (.aload_n 0, 1) := by decide +kernel
theorem d_TP_fits_12 : decode b_TP_fits 12 = .ok (.iload_n 3, 1) := by decide +kernel
theorem d_TP_fits_13 : decode b_TP_fits 13 = .ok (.invokevirtual 58, 3) := by decide +kernel
theorem d_TP_fits_16 : decode b_TP_fits 16 = .ok (.goto 18, 3) := by decide +kernel
theorem d_TP_fits_19 : decode b_TP_fits 19 = .ok (.aload_n 0, 1) := by decide +kernel
theorem d_TP_fits_20 : decode b_TP_fits 20 = .ok (.getfield 31, 3) := by decide +kernel
theorem d_TP_fits_23 : decode b_TP_fits 23 = .ok (.aload_n 0, 1) := by decide +kernel
theorem d_TP_fits_24 : decode b_TP_fits 24 = .ok (.getfield 44, 3) := by decide +kernel
theorem d_TP_fits_27 : decode b_TP_fits 27 = .ok (.iload_n 1, 1) := by decide +kernel
theorem d_TP_fits_28 : decode b_TP_fits 28 = .ok (.aaload, 1) := by decide +kernel
theorem d_TP_fits_29 : decode b_TP_fits 29 = .ok (.iload_n 2, 1) := by decide +kernel
theorem d_TP_fits_30 : decode b_TP_fits 30 = .ok (.iconst 2, 1) := by decide +kernel
theorem d_TP_fits_31 : decode b_TP_fits 31 = .ok (.invokevirtual 170, 3) := by decide +kernel
theorem d_TP_fits_34 : decode b_TP_fits 34 = .ok (.ireturn, 1) := by decide +kernel
theorem d_TP_kinds_0 : decode b_TP_kinds 0 = .ok (.aload_n 0, 1) := by decide +kernel
theorem d_TP_kinds_1 : decode b_TP_kinds 1 = .ok (.iload_n 1, 1) := by decide +kernel
theorem d_TP_kinds_2 : decode b_TP_kinds 2 = .ok (.iload_n 2, 1) := by decide +kernel
theorem d_TP_kinds_3 : decode b_TP_kinds 3 = .ok (.invokevirtual 167, 3) := by decide +kernel
theorem d_TP_kinds_6 : decode b_TP_kinds 6 = .ok (.istore_n 3, 1) := by decide +kernel
theorem d_TP_kinds_7 : decode b_TP_kinds 7 = .ok (.iload_n 3, 1) := by decide +kernel
theorem d_TP_kinds_8 : decode b_TP_kinds 8 = .ok (.ifCond .ge 11, 3) := by decide +kernel
theorem d_TP_kinds_11 : decode b_TP_kinds 11 = .ok (.aload_n 0, 1) := by decide +kernel
theorem d_TP_kinds_12 : decode b_TP_kinds 12 = .ok (.iload_n 3, 1) := by decide +kernel
theorem d_TP_kinds_13 : decode b_TP_kinds 13 = .ok (.invokevirtual 58, 3) := by decide +kernel
theorem d_TP_kinds_16 : decode b_TP_kinds 16 = .ok (.goto 18, 3) := by decide +kernel
theorem d_TP_kinds_19 : decode b_TP_kinds 19 = .ok (.aload_n 0, 1) := by decide +kernel
theorem d_TP_kinds_20 : decode b_TP_kinds 20 = .ok (.getfield 31, 3) := by decide +kernel
theorem d_TP_kinds_23 : decode b_TP_kinds 23 = .ok (.aload_n 0, 1) := by decide +kernel
theorem d_TP_kinds_24 : decode b_TP_kinds 24 = .ok (.getfield 44, 3) := by decide +kernel
theorem d_TP_kinds_27 : decode b_TP_kinds 27 = .ok (.iload_n 1, 1) := by decide +kernel
theorem d_TP_kinds_28 : decode b_TP_kinds 28 = .ok (.aaload, 1) := by decide +kernel
theorem d_TP_kinds_29 : decode b_TP_kinds 29 = .ok (.iload_n 2, 1) := by decide +kernel
theorem d_TP_kinds_30 : decode b_TP_kinds 30 = .ok (.iconst 0, 1) := by decide +kernel
theorem d_TP_kinds_31 : decode b_TP_kinds 31 = .ok (.invokevirtual 170, 3) := by decide +kernel
theorem d_TP_kinds_34 : decode b_TP_kinds 34 = .ok (.ireturn, 1) := by decide +kernel
theorem d_TP_stroll_0 : decode b_TP_stroll 0 = .ok (.iload_n 1, 1) := by decide +kernel
theorem d_TP_stroll_1 : decode b_TP_stroll 1 = .ok (.iconst 1, 1) := by decide +kernel
theorem d_TP_stroll_2 : decode b_TP_stroll 2 = .ok (.isub, 1) := by decide +kernel
theorem d_TP_stroll_3 : decode b_TP_stroll 3 = .ok (.bipush 19, 2) := by decide +kernel
theorem d_TP_stroll_5 : decode b_TP_stroll 5 = .ok (.invokestatic 53, 3) := by decide +kernel
theorem d_TP_stroll_8 : decode b_TP_stroll 8 = .ok (.ifCond .ne 10, 3) := by decide +kernel
theorem d_TP_stroll_11 : decode b_TP_stroll 11 = .ok (.aload_n 0, 1) := by decide +kernel
theorem d_TP_stroll_12 : decode b_TP_stroll 12 = .ok (.ldc 57, 2) := by decide +kernel
theorem d_TP_stroll_14 : decode b_TP_stroll 14 = .ok (.invokevirtual 58, 3) := by decide +kernel
theorem d_TP_stroll_17 : decode b_TP_stroll 17 = .ok (.ireturn, 1) := by decide +kernel
theorem d_TP_stroll_18 : decode b_TP_stroll 18 = .ok (.aload_n 0, 1) := by decide +kernel
theorem d_TP_stroll_19 : decode b_TP_stroll 19 = .ok (.getfield 12, 3) := by decide +kernel
theorem d_TP_stroll_22 : decode b_TP_stroll 22 = .ok (.iload_n 1, 1) := by decide +kernel
theorem d_TP_stroll_23 : decode b_TP_stroll 23 = .ok (.invokevirtual 105, 3) := by decide +kernel
theorem d_TP_stroll_26 : decode b_TP_stroll 26 = .ok (.ifCond .ne 10, 3) := by decide +kernel
theorem d_TP_stroll_29 : decode b_TP_stroll 29 = .ok (.aload_n 0, 1) := by decide +kernel
theorem d_TP_stroll_30 : decode b_TP_stroll 30 = .ok (.ldc 108, 2) := by decide +kernel
theorem d_TP_stroll_32 : decode b_TP_stroll 32 = .ok (.invokevirtual 58, 3) := by decide +kernel
theorem d_TP_stroll_35 : decode b_TP_stroll 35 = .ok (.ireturn, 1) := by decide +kernel
theorem d_TP_stroll_36 : decode b_TP_stroll 36 = .ok (.iconst 0, 1) := by decide +kernel
theorem d_TP_stroll_37 : decode b_TP_stroll 37 = .ok (.istore_n 2, 1) := by decide +kernel
theorem d_TP_stroll_38 : decode b_TP_stroll 38 = .ok (.iload_n 2, 1) := by decide +kernel
theorem d_TP_stroll_39 : decode b_TP_stroll 39 = .ok (.iload_n 1, 1) := by decide +kernel
theorem d_TP_stroll_40 : decode b_TP_stroll 40 = .ok (.if_icmp .ge 16, 3) := by decide +kernel
theorem d_TP_stroll_43 : decode b_TP_stroll 43 = .ok (.aload_n 0, 1) := by decide +kernel
theorem d_TP_stroll_44 : decode b_TP_stroll 44 = .ok (.getfield 12, 3) := by decide +kernel
theorem d_TP_stroll_47 : decode b_TP_stroll 47 = .ok (.invokevirtual 174, 3) := by decide +kernel
theorem d_TP_stroll_50 : decode b_TP_stroll 50 = .ok (.iinc 2 1, 3) := by decide +kernel
theorem d_TP_stroll_53 : decode b_TP_stroll 53 = .ok (.goto (-15), 3) := by decide +kernel
theorem d_TP_stroll_56 : decode b_TP_stroll 56 = .ok (.aload_n 0, 1) := by decide +kernel
theorem d_TP_stroll_57 : decode b_TP_stroll 57 = .ok (.getfield 12, 3) := by decide +kernel
theorem d_TP_stroll_60 : decode b_TP_stroll 60 = .ok (.getfield 62, 3) := by decide +kernel
theorem d_TP_stroll_63 : decode b_TP_stroll 63 = .ok (.ireturn, 1) := by decide +kernel
theorem d_TP_odds_0 : decode b_TP_odds 0 = .ok (.aload_n 0, 1) := by decide +kernel
theorem d_TP_odds_1 : decode b_TP_odds 1 = .ok (.getfield 12, 3) := by decide +kernel
theorem d_TP_odds_4 : decode b_TP_odds 4 = .ok (.iload_n 1, 1) := by decide +kernel
theorem d_TP_odds_5 : decode b_TP_odds 5 = .ok (.invokevirtual 78, 3) := by decide +kernel
theorem d_TP_odds_8 : decode b_TP_odds 8 = .ok (.ifCond .eq 20, 3) := by decide +kernel
theorem d_TP_odds_11 : decode b_TP_odds 11 = .ok (.iload_n 2, 1) := by decide +kernel
theorem d_TP_odds_12 : decode b_TP_odds 12 = .ok (.bipush 15, 2) := by decide +kernel
theorem d_TP_odds_14 : decode b_TP_odds 14 = .ok (.invokestatic 53, 3) := by decide +kernel
theorem d_TP_odds_17 : decode b_TP_odds 17 = .ok (.ifCond .eq 11, 3) := by decide +kernel
theorem d_TP_odds_20 : decode b_TP_odds 20 = .ok (.iload_n 3, 1) := by decide +kernel
theorem d_TP_odds_21 : decode b_TP_odds 21 = .ok (.iconst 1, 1) := by decide +kernel
theorem d_TP_odds_22 : decode b_TP_odds 22 = .ok (.invokestatic 53, 3) := by decide +kernel
theorem d_TP_odds_25 : decode b_TP_odds 25 = .ok (.ifCond .ne 11, 3) := by decide +kernel
theorem d_TP_odds_28 : decode b_TP_odds 28 = .ok (.aload_n 0, 1) := by decide +kernel
theorem d_TP_odds_29 : decode b_TP_odds 29 = .ok (.ldc 57, 2) := by decide +kernel
theorem d_TP_odds_31 : decode b_TP_odds 31 = .ok (.invokevirtual 58, 3) := by decide +kernel
theorem d_TP_odds_34 : decode b_TP_odds 34 = .ok (.i2l, 1) := by decide +kernel
theorem d_TP_odds_35 : decode b_TP_odds 35 = .ok (.lreturn, 1) := by decide +kernel
theorem d_TP_odds_36 : decode b_TP_odds 36 = .ok (.aload_n 0, 1) := by decide +kernel
theorem d_TP_odds_37 : decode b_TP_odds 37 = .ok (.getfield 12, 3) := by decide +kernel
theorem d_TP_odds_40 : decode b_TP_odds 40 = .ok (.iload_n 1, 1) := by decide +kernel
theorem d_TP_odds_41 : decode b_TP_odds 41 = .ok (.invokevirtual 177, 3) := by decide +kernel
theorem d_TP_odds_44 : decode b_TP_odds 44 = .ok (.istore 4, 2) := by decide +kernel
theorem d_TP_odds_46 : decode b_TP_odds 46 = .ok (.iload 4, 2) := by decide +kernel
theorem d_TP_odds_48 : decode b_TP_odds 48 = .ok (.bipush 16, 2) := by decide +kernel
theorem d_TP_odds_50 : decode b_TP_odds 50 = .ok (.invokestatic 180, 3) := by decide +kernel
theorem d_TP_odds_53 : decode b_TP_odds 53 = .ok (.istore 5, 2) := by decide +kernel
theorem d_TP_odds_55 : decode b_TP_odds 55 = .ok (.iload_n 3, 1) := by decide +kernel
theorem d_TP_odds_56 : decode b_TP_odds 56 = .ok (.ifCond .ne 8, 3) := by decide +kernel
theorem d_TP_odds_59 : decode b_TP_odds 59 = .ok (.iload 4, 2) := by decide +kernel
theorem d_TP_odds_61 : decode b_TP_odds 61 = .ok (.goto 5, 3) := by decide +kernel
theorem d_TP_odds_64 : decode b_TP_odds 64 = .ok (.bipush 16, 2) := by decide +kernel
theorem d_TP_odds_66 : decode b_TP_odds 66 = .ok (.iload 5, 2) := by decide +kernel
theorem d_TP_odds_68 : decode b_TP_odds 68 = .ok (.idiv, 1) := by decide +kernel
theorem d_TP_odds_69 : decode b_TP_odds 69 = .ok (.i2l, 1) := by decide +kernel
theorem d_TP_odds_70 : decode b_TP_odds 70 = .ok (.iload_n 2, 1) := by decide +kernel
theorem d_TP_odds_71 : decode b_TP_odds 71 = .ok (.invokestatic 183, 3) := by decide +kernel
theorem d_TP_odds_74 : decode b_TP_odds 74 = .ok (.lreturn, 1) := by decide +kernel
theorem d_TP_seed_0 : decode b_TP_seed 0 = .ok (.aload_n 0, 1) := by decide +kernel
theorem d_TP_seed_1 : decode b_TP_seed 1 = .ok (.getfield 12, 3) := by decide +kernel
theorem d_TP_seed_4 : decode b_TP_seed 4 = .ok (.getfield 187, 3) := by decide +kernel
theorem d_TP_seed_7 : decode b_TP_seed 7 = .ok (.istore_n 2, 1) := by decide +kernel
theorem d_TP_seed_8 : decode b_TP_seed 8 = .ok (.aload_n 0, 1) := by decide +kernel
theorem d_TP_seed_9 : decode b_TP_seed 9 = .ok (.getfield 12, 3) := by decide +kernel
theorem d_TP_seed_12 : decode b_TP_seed 12 = .ok (.iload_n 1, 1) := by decide +kernel
theorem d_TP_seed_13 : decode b_TP_seed 13 = .ok (.putfield 187, 3) := by decide +kernel
theorem d_TP_seed_16 : decode b_TP_seed 16 = .ok (.iload_n 2, 1) := by decide +kernel
theorem d_TP_seed_17 : decode b_TP_seed 17 = .ok (.ireturn, 1) := by decide +kernel
theorem d_TP_feed_0 : decode b_TP_feed 0 = .ok (.iload_n 2, 1) := by decide +kernel
theorem d_TP_feed_1 : decode b_TP_feed 1 = .ok (.iconst 1, 1) := by decide +kernel
theorem d_TP_feed_2 : decode b_TP_feed 2 = .ok (.isub, 1) := by decide +kernel
theorem d_TP_feed_3 : decode b_TP_feed 3 = .ok (.iconst 3, 1) := by decide +kernel
theorem d_TP_feed_4 : decode b_TP_feed 4 = .ok (.invokestatic 53, 3) := by decide +kernel
theorem d_TP_feed_7 : decode b_TP_feed 7 = .ok (.ifCond .ne 10, 3) := by decide +kernel
theorem d_TP_feed_10 : decode b_TP_feed 10 = .ok (.aload_n 0, 1) := by decide +kernel
theorem d_TP_feed_11 : decode b_TP_feed 11 = .ok (.ldc 57, 2) := by decide +kernel
theorem d_TP_feed_13 : decode b_TP_feed 13 = .ok (.invokevirtual 58, 3) := by decide +kernel
theorem d_TP_feed_16 : decode b_TP_feed 16 = .ok (.ireturn, 1) := by decide +kernel
theorem d_TP_feed_17 : decode b_TP_feed 17 = .ok (.iload_n 2, 1) := by decide +kernel
theorem d_TP_feed_18 : decode b_TP_feed 18 = .ok (.bipush 120, 2) := by decide +kernel
theorem d_TP_feed_20 : decode b_TP_feed 20 = .ok (.aload_n 0, 1) := by decide +kernel
theorem d_TP_feed_21 : decode b_TP_feed 21 = .ok (.getfield 38, 3) := by decide +kernel
theorem d_TP_feed_24 : decode b_TP_feed 24 = .ok (.getfield 190, 3) := by decide +kernel
theorem d_TP_feed_27 : decode b_TP_feed 27 = .ok (.isub, 1) := by decide +kernel
theorem d_TP_feed_28 : decode b_TP_feed 28 = .ok (.if_icmp .le 10, 3) := by decide +kernel
theorem d_TP_feed_31 : decode b_TP_feed 31 = .ok (.aload_n 0, 1) := by decide +kernel
theorem d_TP_feed_32 : decode b_TP_feed 32 = .ok (.ldc 73, 2) := by decide +kernel
theorem d_TP_feed_34 : decode b_TP_feed 34 = .ok (.invokevirtual 58, 3) := by decide +kernel
theorem d_TP_feed_37 : decode b_TP_feed 37 = .ok (.ireturn, 1) := by decide +kernel
theorem d_TP_feed_38 : decode b_TP_feed 38 = .ok (.aload_n 0, 1) := by decide +kernel
theorem d_TP_feed_39 : decode b_TP_feed 39 = .ok (.getfield 38, 3) := by decide +kernel
theorem d_TP_feed_42 : decode b_TP_feed 42 = .ok (.iload_n 1, 1) := by decide +kernel
theorem d_TP_feed_43 : decode b_TP_feed 43 = .ok (.iload_n 2, 1) := by decide +kernel
theorem d_TP_feed_44 : decode b_TP_feed 44 = .ok (.invokevirtual 193, 3) := by decide +kernel
theorem d_TP_feed_47 : decode b_TP_feed 47 = .ok (.aload_n 0, 1) := by decide +kernel
theorem d_TP_feed_48 : decode b_TP_feed 48 = .ok (.getfield 38, 3) := by decide +kernel
theorem d_TP_feed_51 : decode b_TP_feed 51 = .ok (.getfield 190, 3) := by decide +kernel
theorem d_TP_feed_54 : decode b_TP_feed 54 = .ok (.ireturn, 1) := by decide +kernel
theorem d_TP_wipe_0 : decode b_TP_wipe 0 = .ok (.aload_n 0, 1) := by decide +kernel
theorem d_TP_wipe_1 : decode b_TP_wipe 1 = .ok (.getfield 38, 3) := by decide +kernel
theorem d_TP_wipe_4 : decode b_TP_wipe 4 = .ok (.getfield 190, 3) := by decide +kernel
theorem d_TP_wipe_7 : decode b_TP_wipe 7 = .ok (.istore_n 1, 1) := by decide +kernel
theorem d_TP_wipe_8 : decode b_TP_wipe 8 = .ok (.aload_n 0, 1) := by decide +kernel
theorem d_TP_wipe_9 : decode b_TP_wipe 9 = .ok (.getfield 38, 3) := by decide +kernel
theorem d_TP_wipe_12 : decode b_TP_wipe 12 = .ok (.iconst 0, 1) := by decide +kernel
theorem d_TP_wipe_13 : decode b_TP_wipe 13 = .ok (.putfield 190, 3) := by decide +kernel
theorem d_TP_wipe_16 : decode b_TP_wipe 16 = .ok (.iload_n 1, 1) := by decide +kernel
theorem d_TP_wipe_17 : decode b_TP_wipe 17 = .ok (.ireturn, 1) := by decide +kernel
theorem d_TP_text_0 : decode b_TP_text 0 = .ok (.aload_n 0, 1) := by decide +kernel
theorem d_TP_text_1 : decode b_TP_text 1 = .ok (.getfield 16, 3) := by decide +kernel
theorem d_TP_text_4 : decode b_TP_text 4 = .ok (.aload_n 0, 1) := by decide +kernel
theorem d_TP_text_5 : decode b_TP_text 5 = .ok (.getfield 12, 3) := by decide +kernel
theorem d_TP_text_8 : decode b_TP_text 8 = .ok (.invokevirtual 196, 3) := by decide +kernel
theorem d_TP_text_11 : decode b_TP_text 11 = .ok (.aload_n 0, 1) := by decide +kernel
theorem d_TP_text_12 : decode b_TP_text 12 = .ok (.getfield 38, 3) := by decide +kernel
theorem d_TP_text_15 : decode b_TP_text 15 = .ok (.aload_n 0, 1) := by decide +kernel
theorem d_TP_text_16 : decode b_TP_text 16 = .ok (.getfield 16, 3) := by decide +kernel
theorem d_TP_text_19 : decode b_TP_text 19 = .ok (.invokevirtual 200, 3) := by decide +kernel
theorem d_TP_text_22 : decode b_TP_text 22 = .ok (.istore_n 1, 1) := by decide +kernel
theorem d_TP_text_23 : decode b_TP_text 23 = .ok (.iload_n 1, 1) := by decide +kernel
theorem d_TP_text_24 : decode b_TP_text 24 = .ok (.ifCond .lt 14, 3) := by decide +kernel
theorem d_TP_text_27 : decode b_TP_text 27 = .ok (.aload_n 0, 1) := by decide +kernel
theorem d_TP_text_28 : decode b_TP_text 28 = .ok (.getfield 12, 3) := by decide +kernel
theorem d_TP_text_31 : decode b_TP_text 31 = .ok (.aload_n 0, 1) := by decide +kernel
theorem d_TP_text_32 : decode b_TP_text 32 = .ok (.getfield 16, 3) := by decide +kernel
theorem d_TP_text_35 : decode b_TP_text 35 = .ok (.invokevirtual 196, 3) := by decide +kernel
theorem d_TP_text_38 : decode b_TP_text 38 = .ok (.aload_n 0, 1) := by decide +kernel
theorem d_TP_text_39 : decode b_TP_text 39 = .ok (.getfield 38, 3) := by decide +kernel
theorem d_TP_text_42 : decode b_TP_text 42 = .ok (.iconst 0, 1) := by decide +kernel
theorem d_TP_text_43 : decode b_TP_text 43 = .ok (.putfield 190, 3) := by decide +kernel
theorem d_TP_text_46 : decode b_TP_text 46 = .ok (.iload_n 1, 1) := by decide +kernel
theorem d_TP_text_47 : decode b_TP_text 47 = .ok (.ireturn, 1) := by decide +kernel
theorem d_TP_hold_0 : decode b_TP_hold 0 = .ok (.iload_n 1, 1) := by decide +kernel
theorem d_TP_hold_1 : decode b_TP_hold 1 = .ok (.bipush 9, 2) := by decide +kernel
theorem d_TP_hold_3 : decode b_TP_hold 3 = .ok (.invokestatic 53, 3) := by decide +kernel
theorem d_TP_hold_6 : decode b_TP_hold 6 = .ok (.ifCond .eq 19, 3) := by decide +kernel
theorem d_TP_hold_9 : decode b_TP_hold 9 = .ok (.iload_n 2, 1) := by decide +kernel
theorem d_TP_hold_10 : decode b_TP_hold 10 = .ok (.iconst (-1), 1) := by decide +kernel
theorem d_TP_hold_11 : decode b_TP_hold 11 = .ok (.if_icmp .eq 21, 3) := by decide +kernel
theorem d_TP_hold_14 : decode b_TP_hold 14 = .ok (.aload_n 0, 1) := by decide +kernel
theorem d_TP_hold_15 : decode b_TP_hold 15 = .ok (.getfield 12, 3) := by decide +kernel
theorem d_TP_hold_18 : decode b_TP_hold 18 = .ok (.iload_n 2, 1) := by decide +kernel
theorem d_TP_hold_19 : decode b_TP_hold 19 = .ok (.invokevirtual 78, 3) := by decide +kernel
theorem d_TP_hold_22 : decode b_TP_hold 22 = .ok (.ifCond .ne 10, 3) := by decide +kernel
theorem d_TP_hold_25 : decode b_TP_hold 25 = .ok (.aload_n 0, 1) := by decide +kernel
theorem d_TP_hold_26 : decode b_TP_hold 26 = .ok (.ldc 57, 2) := by decide +kernel
theorem d_TP_hold_28 : decode b_TP_hold 28 = .ok (.invokevirtual 58, 3) := by decide +kernel
theorem d_TP_hold_31 : decode b_TP_hold 31 = .ok (.ireturn, 1) := by decide +kernel
theorem d_TP_hold_32 : decode b_TP_hold 32 = .ok (.aload_n 0, 1) := by decide +kernel
theorem d_TP_hold_33 : decode b_TP_hold 33 = .ok (.getfield 12, 3) := by decide +kernel
theorem d_TP_hold_36 : decode b_TP_hold 36 = .ok (.getfield 204, 3) := by decide +kernel
theorem d_TP_hold_39 : decode b_TP_hold 39 = .ok (.iload_n 1, 1) := by decide +kernel
theorem d_TP_hold_40 : decode b_TP_hold 40 = .ok (.iload_n 2, 1) := by decide +kernel
theorem d_TP_hold_41 : decode b_TP_hold 41 = .ok (.iastore, 1) := by decide +kernel
theorem d_TP_hold_42 : decode b_TP_hold 42 = .ok (.iconst 1, 1) := by decide +kernel
theorem d_TP_hold_43 : decode b_TP_hold 43 = .ok (.ireturn, 1) := by decide +kernel
theorem d_TP_as_0 : decode b_TP_as 0 = .ok (.iload_n 1, 1) := by decide +kernel
theorem d_TP_as_1 : decode b_TP_as 1 = .ok (.bipush 9, 2) := by decide +kernel
theorem d_TP_as_3 : decode b_TP_as 3 = .ok (.invokestatic 53, 3) := by decide +kernel
theorem d_TP_as_6 : decode b_TP_as 6 = .ok (.ifCond .eq 12, 3) := by decide +kernel
theorem d_TP_as_9 : decode b_TP_as 9 = .ok (.iload_n 2, 1) := by decide +kernel
theorem d_TP_as_10 : decode b_TP_as 10 = .ok (.bipush 6, 2) := by decide +kernel
theorem d_TP_as_12 : decode b_TP_as 12 = .ok (.invokestatic 53, 3) := by decide +kernel
theorem d_TP_as_15 : decode b_TP_as 15 = .ok (.ifCond .ne 10, 3) := by decide +kernel
theorem d_TP_as_18 : decode b_TP_as 18 = .ok (.aload_n 0, 1) := by decide +kernel
theorem d_TP_as_19 : decode b_TP_as 19 = .ok (.ldc 57, 2) := by decide +kernel
theorem d_TP_as_21 : decode b_TP_as 21 = .ok (.invokevirtual 58, 3) := by decide +kernel
theorem d_TP_as_24 : decode b_TP_as 24 = .ok (.ireturn, 1) := by decide +kernel
theorem d_TP_as_25 : decode b_TP_as 25 = .ok (.aload_n 0, 1) := by decide +kernel
theorem d_TP_as_26 : decode b_TP_as 26 = .ok (.getfield 12, 3) := by decide +kernel
theorem d_TP_as_29 : decode b_TP_as 29 = .ok (.getfield 204, 3) := by decide +kernel
theorem d_TP_as_32 : decode b_TP_as 32 = .ok (.iload_n 1, 1) := by decide +kernel
theorem d_TP_as_33 : decode b_TP_as 33 = .ok (.iaload, 1) := by decide +kernel
theorem d_TP_as_34 : decode b_TP_as 34 = .ok (.istore_n 3, 1) := by decide +kernel
theorem d_TP_as_35 : decode b_TP_as 35 = .ok (.aload_n 0, 1) := by decide +kernel
theorem d_TP_as_36 : decode b_TP_as 36 = .ok (.getfield 12, 3) := by decide +kernel
theorem d_TP_as_39 : decode b_TP_as 39 = .ok (.iload_n 3, 1) := by decide +kernel
theorem d_TP_as_40 : decode b_TP_as 40 = .ok (.invokevirtual 78, 3) := by decide +kernel
theorem d_TP_as_43 : decode b_TP_as 43 = .ok (.ifCond .ne 10, 3) := by decide +kernel
theorem d_TP_as_46 : decode b_TP_as 46 = .ok (.aload_n 0, 1) := by decide +kernel
theorem d_TP_as_47 : decode b_TP_as 47 = .ok (.ldc 207, 2) := by decide +kernel
theorem d_TP_as_49 : decode b_TP_as 49 = .ok (.invokevirtual 58, 3) := by decide +kernel
theorem d_TP_as_52 : decode b_TP_as 52 = .ok (.ireturn, 1) := by decide +kernel
theorem d_TP_as_53 : decode b_TP_as 53 = .ok (.aload_n 0, 1) := by decide +kernel
theorem d_TP_as_54 : decode b_TP_as 54 = .ok (.getfield 12, 3) := by decide +kernel
theorem d_TP_as_57 : decode b_TP_as 57 = .ok (.getfield 88, 3) := by decide +kernel
theorem d_TP_as_60 : decode b_TP_as 60 = .ok (.iload_n 3, 1) := by decide +kernel
theorem d_TP_as_61 : decode b_TP_as 61 = .ok (.aaload, 1) := by decide +kernel
theorem d_TP_as_62 : decode b_TP_as 62 = .ok (.iload_n 2, 1) := by decide +kernel
theorem d_TP_as_63 : decode b_TP_as 63 = .ok (.invokevirtual 208, 3) := by decide +kernel
theorem d_TP_as_66 : decode b_TP_as 66 = .ok (.ifCond .eq 7, 3) := by decide +kernel
theorem d_TP_as_69 : decode b_TP_as 69 = .ok (.iload_n 3, 1) := by decide +kernel
theorem d_TP_as_70 : decode b_TP_as 70 = .ok (.goto 9, 3) := by decide +kernel
theorem d_TP_as_73 : decode b_TP_as 73 = .ok (.aload_n 0, 1) := by decide +kernel
theorem d_TP_as_74 : decode b_TP_as 74 = .ok (.ldc 211, 2) := by decide +kernel
theorem d_TP_as_76 : decode b_TP_as 76 = .ok (.invokevirtual 58, 3) := by decide +kernel
theorem d_TP_as_79 : decode b_TP_as 79 = .ok (.ireturn, 1) := by decide +kernel
theorem d_TP_sheet_0 : decode b_TP_sheet 0 = .ok (.iload_n 1, 1) := by decide +kernel
theorem d_TP_sheet_1 : decode b_TP_sheet 1 = .ok (.iconst 3, 1) := by decide +kernel
theorem d_TP_sheet_2 : decode b_TP_sheet 2 = .ok (.invokestatic 53, 3) := by decide +kernel
theorem d_TP_sheet_5 : decode b_TP_sheet 5 = .ok (.ifCond .eq 25, 3) := by decide +kernel
theorem d_TP_sheet_8 : decode b_TP_sheet 8 = .ok (.iload_n 2, 1) := by decide +kernel
theorem d_TP_sheet_9 : decode b_TP_sheet 9 = .ok (.ifCond .eq 28, 3) := by decide +kernel
theorem d_TP_sheet_12 : decode b_TP_sheet 12 = .ok (.iload_n 2, 1) := by decide +kernel
theorem d_TP_sheet_13 : decode b_TP_sheet 13 = .ok (.bipush 8, 2) := by decide +kernel
theorem d_TP_sheet_15 : decode b_TP_sheet 15 = .ok (.if_icmp .eq 22, 3) := by decide +kernel
theorem d_TP_sheet_18 : decode b_TP_sheet 18 = .ok (.iload_n 2, 1) := by decide +kernel
theorem d_TP_sheet_19 : decode b_TP_sheet 19 = .ok (.bipush 16, 2) := by decide +kernel
theorem d_TP_sheet_21 : decode b_TP_sheet 21 = .ok (.if_icmp .eq 16, 3) := by decide +kernel
theorem d_TP_sheet_24 : decode b_TP_sheet 24 = .ok (.iload_n 2, 1) := by decide +kernel
theorem d_TP_sheet_25 : decode b_TP_sheet 25 = .ok (.bipush 32, 2) := by decide +kernel
theorem d_TP_sheet_27 : decode b_TP_sheet 27 = .ok (.if_icmp .eq 10, 3) := by decide +kernel
theorem d_TP_sheet_30 : decode b_TP_sheet 30 = .ok (.aload_n 0, 1) := by decide +kernel
theorem d_TP_sheet_31 : decode b_TP_sheet 31 = .ok (.ldc 57, 2) := by decide +kernel
theorem d_TP_sheet_33 : decode b_TP_sheet 33 = .ok (.invokevirtual 58, 3) := by decide +kernel
theorem d_TP_sheet_36 : decode b_TP_sheet 36 = .ok (.ireturn, 1) := by decide +kernel
theorem d_TP_sheet_37 : decode b_TP_sheet 37 = .ok (.iload_n 3, 1) := by decide +kernel
theorem d_TP_sheet_38 : decode b_TP_sheet 38 = .ok (.ifCond .ge 10, 3) := by decide +kernel
theorem d_TP_sheet_41 : decode b_TP_sheet 41 = .ok (.aload_n 0, 1) := by decide +kernel
theorem d_TP_sheet_42 : decode b_TP_sheet 42 = .ok (.ldc 212, 2) := by decide +kernel
theorem d_TP_sheet_44 : decode b_TP_sheet 44 = .ok (.invokevirtual 58, 3) := by decide +kernel
theorem d_TP_sheet_47 : decode b_TP_sheet 47 = .ok (.ireturn, 1) := by decide +kernel
theorem d_TP_sheet_48 : decode b_TP_sheet 48 = .ok (.iload_n 3, 1) := by decide +kernel
theorem d_TP_sheet_49 : decode b_TP_sheet 49 = .ok (.bipush 40, 2) := by decide +kernel
theorem d_TP_sheet_51 : decode b_TP_sheet 51 = .ok (.if_icmp .le 10, 3) := by decide +kernel
theorem d_TP_sheet_54 : decode b_TP_sheet 54 = .ok (.aload_n 0, 1) := by decide +kernel
theorem d_TP_sheet_55 : decode b_TP_sheet 55 = .ok (.ldc 57, 2) := by decide +kernel
theorem d_TP_sheet_57 : decode b_TP_sheet 57 = .ok (.invokevirtual 58, 3) := by decide +kernel
theorem d_TP_sheet_60 : decode b_TP_sheet 60 = .ok (.ireturn, 1) := by decide +kernel
theorem d_TP_sheet_61 : decode b_TP_sheet 61 = .ok (.aload_n 0, 1) := by decide +kernel
theorem d_TP_sheet_62 : decode b_TP_sheet 62 = .ok (.getfield 44, 3) := by decide +kernel
theorem d_TP_sheet_65 : decode b_TP_sheet 65 = .ok (.iload_n 1, 1) := by decide +kernel
theorem d_TP_sheet_66 : decode b_TP_sheet 66 = .ok (.aaload, 1) := by decide +kernel
theorem d_TP_sheet_67 : decode b_TP_sheet 67 = .ok (.iload_n 2, 1) := by decide +kernel
theorem d_TP_sheet_68 : decode b_TP_sheet 68 = .ok (.iload_n 3, 1) := by decide +kernel
theorem d_TP_sheet_69 : decode b_TP_sheet 69 = .ok (.invokevirtual 213, 3) := by decide +kernel
theorem d_TP_sheet_72 : decode b_TP_sheet 72 = .ok (.aload_n 0, 1) := by decide +kernel
theorem d_TP_sheet_73 : decode b_TP_sheet 73 = .ok (.getfield 44, 3) := by decide +kernel
theorem d_TP_sheet_76 : decode b_TP_sheet 76 = .ok (.iload_n 1, 1) := by decide +kernel
theorem d_TP_sheet_77 : decode b_TP_sheet 77 = .ok (.aaload, 1) := by decide +kernel
theorem d_TP_sheet_78 : decode b_TP_sheet 78 = .ok (.getfield 216, 3) := by decide +kernel
theorem d_TP_sheet_81 : decode b_TP_sheet 81 = .ok (.ireturn, 1) := by decide +kernel
theorem d_TP_write_0 : decode b_TP_write 0 = .ok (.aload_n 0, 1) := by decide +kernel
theorem d_TP_write_1 : decode b_TP_write 1 = .ok (.iload_n 1, 1) := by decide +kernel
theorem d_TP_write_2 : decode b_TP_write 2 = .ok (.invokevirtual 217, 3) := by decide +kernel
theorem d_TP_write_5 : decode b_TP_write 5 = .ok (.istore 4, 2) := by decide +kernel
theorem d_TP_write_7 : decode b_TP_write 7 = .ok (.iload 4, 2) := by decide +kernel
theorem d_TP_write_9 : decode b_TP_write 9 = .ok (.ifCond .ge 10, 3) := by decide +kernel
theorem d_TP_write_12 : decode b_TP_write 12 = .ok (.aload_n 0, 1) := by decide +kernel
theorem d_TP_write_13 : decode b_TP_write 13 = .ok (.iload 4, 2) := by decide +kernel
theorem d_TP_write_15 : decode b_TP_write 15 = .ok (.invokevirtual 58, 3) := by decide +kernel
theorem d_TP_write_18 : decode b_TP_write 18 = .ok (.ireturn, 1) := by decide +kernel
theorem d_TP_write_19 : decode b_TP_write 19 = .ok (.iload_n 2, 1) := by decide +kernel
theorem d_TP_write_20 : decode b_TP_write 20 = .ok (.aload_n 0, 1) := by decide +kernel
theorem d_TP_write_21 : decode b_TP_write 21 = .ok (.getfield 44, 3) := by decide +kernel
theorem d_TP_write_24 : decode b_TP_write 24 = .ok (.iload_n 1, 1) := by decide +kernel
theorem d_TP_write_25 : decode b_TP_write 25 = .ok (.aaload, 1) := by decide +kernel
theorem d_TP_write_26 : decode b_TP_write 26 = .ok (.getfield 216, 3) := by decide +kernel
theorem d_TP_write_29 : decode b_TP_write 29 = .ok (.iconst 1, 1) := by decide +kernel
theorem d_TP_write_30 : decode b_TP_write 30 = .ok (.isub, 1) := by decide +kernel
theorem d_TP_write_31 : decode b_TP_write 31 = .ok (.invokestatic 53, 3) := by decide +kernel
theorem d_TP_write_34 : decode b_TP_write 34 = .ok (.ifCond .ne 10, 3) := by decide +kernel
theorem d_TP_write_37 : decode b_TP_write 37 = .ok (.aload_n 0, 1) := by decide +kernel
theorem d_TP_write_38 : decode b_TP_write 38 = .ok (.ldc 57, 2) := by decide +kernel
theorem d_TP_write_40 : decode b_TP_write 40 = .ok (.invokevirtual 58, 3) := by decide +kernel
theorem d_TP_write_43 : decode b_TP_write 43 = .ok (.ireturn, 1) := by decide +kernel
theorem d_TP_write_44 : decode b_TP_write 44 = .ok (.aload_n 0, 1) := by decide +kernel
theorem d_TP_write_45 : decode b_TP_write 45 = .ok (.getfield 44, 3) := by decide +kernel
theorem d_TP_write_48 : decode b_TP_write 48 = .ok (.iload_n 1, 1) := by decide +kernel
theorem d_TP_write_49 : decode b_TP_write 49 = .ok (.aaload, 1) := by decide +kernel
theorem d_TP_write_50 : decode b_TP_write 50 = .ok (.iload_n 2, 1) := by decide +kernel
theorem d_TP_write_51 : decode b_TP_write 51 = .ok (.iload_n 3, 1) := by decide +kernel
theorem d_TP_write_52 : decode b_TP_write 52 = .ok (.invokevirtual 220, 3) := by decide +kernel
theorem d_TP_write_55 : decode b_TP_write 55 = .ok (.iconst 1, 1) := by decide +kernel
theorem d_TP_write_56 : decode b_TP_write 56 = .ok (.ireturn, 1) := by decide +kernel
theorem d_TP_copy_0 : decode b_TP_copy 0 = .ok (.iload_n 1, 1) := by decide +kernel
theorem d_TP_copy_1 : decode b_TP_copy 1 = .ok (.iconst 3, 1) := by decide +kernel
theorem d_TP_copy_2 : decode b_TP_copy 2 = .ok (.invokestatic 53, 3) := by decide +kernel
theorem d_TP_copy_5 : decode b_TP_copy 5 = .ok (.ifCond .eq 11, 3) := by decide +kernel
theorem d_TP_copy_8 : decode b_TP_copy 8 = .ok (.iload_n 3, 1) := by decide +kernel
theorem d_TP_copy_9 : decode b_TP_copy 9 = .ok (.iconst 3, 1) := by decide +kernel
theorem d_TP_copy_10 : decode b_TP_copy 10 = .ok (.invokestatic 53, 3) := by decide +kernel
theorem d_TP_copy_13 : decode b_TP_copy 13 = .ok (.ifCond .ne 10, 3) := by decide +kernel
theorem d_TP_copy_16 : decode b_TP_copy 16 = .ok (.aload_n 0, 1) := by decide +kernel
theorem d_TP_copy_17 : decode b_TP_copy 17 = .ok (.ldc 57, 2) := by decide +kernel
theorem d_TP_copy_19 : decode b_TP_copy 19 = .ok (.invokevirtual 58, 3) := by decide +kernel
theorem d_TP_copy_22 : decode b_TP_copy 22 = .ok (.ireturn, 1) := by decide +kernel
theorem d_TP_copy_23 : decode b_TP_copy 23 = .ok (.aload_n 0, 1) := by decide +kernel
theorem d_TP_copy_24 : decode b_TP_copy 24 = .ok (.getfield 44, 3) := by decide +kernel
theorem d_TP_copy_27 : decode b_TP_copy 27 = .ok (.iload_n 1, 1) := by decide +kernel
theorem d_TP_copy_28 : decode b_TP_copy 28 = .ok (.aaload, 1) := by decide +kernel
theorem d_TP_copy_29 : decode b_TP_copy 29 = .ok (.invokevirtual 223, 3) := by decide +kernel
theorem d_TP_copy_32 : decode b_TP_copy 32 = .ok (.ifCond .ne 15, 3) := by decide +kernel
theorem d_TP_copy_35 : decode b_TP_copy 35 = .ok (.aload_n 0, 1) := by decide +kernel
theorem d_TP_copy_36 : decode b_TP_copy 36 = .ok (.getfield 44, 3) := by decide +kernel
theorem d_TP_copy_39 : decode b_TP_copy 39 = .ok (.iload_n 3, 1) := by decide +kernel
theorem d_TP_copy_40 : decode b_TP_copy 40 = .ok (.aaload, 1) := by decide +kernel
theorem d_TP_copy_41 : decode b_TP_copy 41 = .ok (.invokevirtual 223, 3) := by decide +kernel
theorem d_TP_copy_44 : decode b_TP_copy 44 = .ok (.ifCond .eq 10, 3) := by decide +kernel
theorem d_TP_copy_47 : decode b_TP_copy 47 = .ok (.aload_n 0, 1) := by decide +kernel
theorem d_TP_copy_48 : decode b_TP_copy 48 = .ok (.ldc 207, 2) := by decide +kernel
theorem d_TP_copy_50 : decode b_TP_copy 50 = .ok (.invokevirtual 58, 3) := by decide +kernel
theorem d_TP_copy_53 : decode b_TP_copy 53 = .ok (.ireturn, 1) := by decide +kernel
theorem d_TP_copy_54 : decode b_TP_copy 54 = .ok (.aload_n 0, 1) := by decide +kernel
theorem d_TP_copy_55 : decode b_TP_copy 55 = .ok (.getfield 44, 3) := by decide +kernel
theorem d_TP_copy_58 : decode b_TP_copy 58 = .ok (.iload_n 1, 1) := by decide +kernel
theorem d_TP_copy_59 : decode b_TP_copy 59 = .ok (.aaload, 1) := by decide +kernel
theorem d_TP_copy_60 : decode b_TP_copy 60 = .ok (.getfield 226, 3) := by decide +kernel
theorem d_TP_copy_63 : decode b_TP_copy 63 = .ok (.aload_n 0, 1) := by decide +kernel
theorem d_TP_copy_64 : decode b_TP_copy 64 = .ok (.getfield 44, 3) := by decide +kernel
theorem d_TP_copy_67 : decode b_TP_copy 67 = .ok (.iload_n 3, 1) := by decide +kernel
theorem d_TP_copy_68 : decode b_TP_copy 68 = .ok (.aaload, 1) := by decide +kernel
theorem d_TP_copy_69 : decode b_TP_copy 69 = .ok (.getfield 226, 3) := by decide +kernel
theorem d_TP_copy_72 : decode b_TP_copy 72 = .ok (.if_icmp .eq 10, 3) := by decide +kernel
theorem d_TP_copy_75 : decode b_TP_copy 75 = .ok (.aload_n 0, 1) := by decide +kernel
theorem d_TP_copy_76 : decode b_TP_copy 76 = .ok (.ldc 211, 2) := by decide +kernel
theorem d_TP_copy_78 : decode b_TP_copy 78 = .ok (.invokevirtual 58, 3) := by decide +kernel
theorem d_TP_copy_81 : decode b_TP_copy 81 = .ok (.ireturn, 1) := by decide +kernel
theorem d_TP_copy_82 : decode b_TP_copy 82 = .ok (.aload_n 0, 1) := by decide +kernel
theorem d_TP_copy_83 : decode b_TP_copy 83 = .ok (.getfield 44, 3) := by decide +kernel
theorem d_TP_copy_86 : decode b_TP_copy 86 = .ok (.iload_n 1, 1) := by decide +kernel
theorem d_TP_copy_87 : decode b_TP_copy 87 = .ok (.aaload, 1) := by decide +kernel
theorem d_TP_copy_88 : decode b_TP_copy 88 = .ok (.iload_n 2, 1) := by decide +kernel
theorem d_TP_copy_89 : decode b_TP_copy 89 = .ok (.iload 5, 2) := by decide +kernel
theorem d_TP_copy_91 : decode b_TP_copy 91 = .ok (.invokevirtual 229, 3) := by decide +kernel
theorem d_TP_copy_94 : decode b_TP_copy 94 = .ok (.ifCond .eq 19, 3) := by decide +kernel
theorem d_TP_copy_97 : decode b_TP_copy 97 = .ok (.aload_n 0, 1) := by decide +kernel
theorem d_TP_copy_98 : decode b_TP_copy 98 = .ok (.getfield 44, 3) := by decide +kernel
theorem d_TP_copy_101 : decode b_TP_copy 101 = .ok (.iload_n 3, 1) := by decide +kernel
theorem d_TP_copy_102 : decode b_TP_copy 102 = .ok (.aaload, 1) := by decide +kernel
theorem d_TP_copy_103 : decode b_TP_copy 103 = .ok (.iload 4, 2) := by decide +kernel
theorem d_TP_copy_105 : decode b_TP_copy 105 = .ok (.iload 5, 2) := by decide +kernel
theorem d_TP_copy_107 : decode b_TP_copy 107 = .ok (.invokevirtual 229, 3) := by decide +kernel
theorem d_TP_copy_110 : decode b_TP_copy 110 = .ok (.ifCond .ne 10, 3) := by decide +kernel
theorem d_TP_copy_113 : decode b_TP_copy 113 = .ok (.aload_n 0, 1) := by decide +kernel
theorem d_TP_copy_114 : decode b_TP_copy 114 = .ok (.ldc 57, 2) := by decide +kernel
theorem d_TP_copy_116 : decode b_TP_copy 116 = .ok (.invokevirtual 58, 3) := by decide +kernel
theorem d_TP_copy_119 : decode b_TP_copy 119 = .ok (.ireturn, 1) := by decide +kernel
theorem d_TP_copy_120 : decode b_TP_copy 120 = .ok (.aload_n 0, 1) := by decide +kernel
theorem d_TP_copy_121 : decode b_TP_copy 121 = .ok (.getfield 44, 3) := by decide +kernel
theorem d_TP_copy_124 : decode b_TP_copy 124 = .ok (.iload_n 1, 1) := by decide +kernel
theorem d_TP_copy_125 : decode b_TP_copy 125 = .ok (.aaload, 1) := by decide +kernel
theorem d_TP_copy_126 : decode b_TP_copy 126 = .ok (.getfield 232, 3) := by decide +kernel
theorem d_TP_copy_129 : decode b_TP_copy 129 = .ok (.iload_n 2, 1) := by decide +kernel
theorem d_TP_copy_130 : decode b_TP_copy 130 = .ok (.aload_n 0, 1) := by decide +kernel
theorem d_TP_copy_131 : decode b_TP_copy 131 = .ok (.getfield 44, 3) := by decide +kernel
theorem d_TP_copy_134 : decode b_TP_copy 134 = .ok (.iload_n 3, 1) := by decide +kernel
theorem d_TP_copy_135 : decode b_TP_copy 135 = .ok (.aaload, 1) := by decide +kernel
theorem d_TP_copy_136 : decode b_TP_copy 136 = .ok (.getfield 232, 3) := by decide +kernel
theorem d_TP_copy_139 : decode b_TP_copy 139 = .ok (.iload 4, 2) := by decide +kernel
theorem d_TP_copy_141 : decode b_TP_copy 141 = .ok (.iload 5, 2) := by decide +kernel
theorem d_TP_copy_143 : decode b_TP_copy 143 = .ok (.invokestatic 235, 3) := by decide +kernel
theorem d_TP_copy_146 : decode b_TP_copy 146 = .ok (.iload 5, 2) := by decide +kernel
theorem d_TP_copy_148 : decode b_TP_copy 148 = .ok (.ireturn, 1) := by decide +kernel
theorem d_TP_load_0 : decode b_TP_load 0 = .ok (.aload_n 0, 1) := by decide +kernel
theorem d_TP_load_1 : decode b_TP_load 1 = .ok (.iload_n 1, 1) := by decide +kernel
theorem d_TP_load_2 : decode b_TP_load 2 = .ok (.invokevirtual 217, 3) := by decide +kernel
theorem d_TP_load_5 : decode b_TP_load 5 = .ok (.istore_n 2, 1) := by decide +kernel
theorem d_TP_load_6 : decode b_TP_load 6 = .ok (.iload_n 2, 1) := by decide +kernel
theorem d_TP_load_7 : decode b_TP_load 7 = .ok (.ifCond .ge 11, 3) := by decide +kernel
theorem d_TP_load_10 : decode b_TP_load 10 = .ok (.aload_n 0, 1) := by decide +kernel
theorem d_TP_load_11 : decode b_TP_load 11 = .ok (.iload_n 2, 1) := by decide +kernel
theorem d_TP_load_12 : decode b_TP_load 12 = .ok (.invokevirtual 58, 3) := by decide +kernel
theorem d_TP_load_15 : decode b_TP_load 15 = .ok (.goto 16, 3) := by decide +kernel
theorem d_TP_load_18 : decode b_TP_load 18 = .ok (.aload_n 0, 1) := by decide +kernel
theorem d_TP_load_19 : decode b_TP_load 19 = .ok (.getfield 44, 3) := by decide +kernel
theorem d_TP_load_22 : decode b_TP_load 22 = .ok (.iload_n 1, 1) := by decide +kernel
theorem d_TP_load_23 : decode b_TP_load 23 = .ok (.aaload, 1) := by decide +kernel
theorem d_TP_load_24 : decode b_TP_load 24 = .ok (.aload_n 0, 1) := by decide +kernel
theorem d_TP_load_25 : decode b_TP_load 25 = .ok (.getfield 12, 3) := by decide +kernel
theorem d_TP_load_28 : decode b_TP_load 28 = .ok (.invokevirtual 241, 3) := by decide +kernel
theorem d_TP_load_31 : decode b_TP_load 31 = .ok (.ireturn, 1) := by decide +kernel
theorem d_TP_judge_0 : decode b_TP_judge 0 = .ok (.aload_n 0, 1) := by decide +kernel
theorem d_TP_judge_1 : decode b_TP_judge 1 = .ok (.iload_n 1, 1) := by decide +kernel
theorem d_TP_judge_2 : decode b_TP_judge 2 = .ok (.invokevirtual 217, 3) := by decide +kernel
theorem d_TP_judge_5 : decode b_TP_judge 5 = .ok (.istore_n 2, 1) := by decide +kernel
theorem d_TP_judge_6 : decode b_TP_judge 6 = .ok (.iload_n 2, 1) := by decide +kernel
theorem d_TP_judge_7 : decode b_TP_judge 7 = .ok (.ifCond .ge 11, 3) := by decide +kernel
theorem d_TP_judge_10 : decode b_TP_judge 10 = .ok (.aload_n 0, 1) := by decide +kernel
theorem d_TP_judge_11 : decode b_TP_judge 11 = .ok (.iload_n 2, 1) := by decide +kernel
theorem d_TP_judge_12 : decode b_TP_judge 12 = .ok (.invokevirtual 58, 3) := by decide +kernel
theorem d_TP_judge_15 : decode b_TP_judge 15 = .ok (.goto 18, 3) := by decide +kernel
theorem d_TP_judge_18 : decode b_TP_judge 18 = .ok (.aload_n 0, 1) := by decide +kernel
theorem d_TP_judge_19 : decode b_TP_judge 19 = .ok (.getfield 44, 3) := by decide +kernel
theorem d_TP_judge_22 : decode b_TP_judge 22 = .ok (.iload_n 1, 1) := by decide +kernel
theorem d_TP_judge_23 : decode b_TP_judge 23 = .ok (.aaload, 1) := by decide +kernel
theorem d_TP_judge_24 : decode b_TP_judge 24 = .ok (.aload_n 0, 1) := by decide +kernel
theorem d_TP_judge_25 : decode b_TP_judge 25 = .ok (.getfield 12, 3) := by decide +kernel
theorem d_TP_judge_28 : decode b_TP_judge 28 = .ok (.invokevirtual 244, 3) := by decide +kernel
theorem d_TP_judge_31 : decode b_TP_judge 31 = .ok (.iconst 1, 1) := by decide +kernel
theorem d_TP_judge_32 : decode b_TP_judge 32 = .ok (.iadd, 1) := by decide +kernel
theorem d_TP_judge_33 : decode b_TP_judge 33 = .ok (.ireturn, 1) := by decide +kernel
theorem d_TP_image_0 : decode b_TP_image 0 = .ok (.aload_n 0, 1) := by decide +kernel
theorem d_TP_image_1 : decode b_TP_image 1 = .ok (.getfield 19, 3) := by decide +kernel
theorem d_TP_image_4 : decode b_TP_image 4 = .ok (.aload_n 0, 1) := by decide +kernel
theorem d_TP_image_5 : decode b_TP_image 5 = .ok (.getfield 12, 3) := by decide +kernel
theorem d_TP_image_8 : decode b_TP_image 8 = .ok (.invokevirtual 196, 3) := by decide +kernel
theorem d_TP_image_11 : decode b_TP_image 11 = .ok (.aload_n 0, 1) := by decide +kernel
theorem d_TP_image_12 : decode b_TP_image 12 = .ok (.iconst 1, 1) := by decide +kernel
theorem d_TP_image_13 : decode b_TP_image 13 = .ok (.putfield 22, 3) := by decide +kernel
theorem d_TP_image_16 : decode b_TP_image 16 = .ok (.iconst 1, 1) := by decide +kernel
theorem d_TP_image_17 : decode b_TP_image 17 = .ok (.ireturn, 1) := by decide +kernel
theorem d_TP_undo_0 : decode b_TP_undo 0 = .ok (.aload_n 0, 1) := by decide +kernel
theorem d_TP_undo_1 : decode b_TP_undo 1 = .ok (.getfield 22, 3) := by decide +kernel
theorem d_TP_undo_4 : decode b_TP_undo 4 = .ok (.ifCond .ne 10, 3) := by decide +kernel
theorem d_TP_undo_7 : decode b_TP_undo 7 = .ok (.aload_n 0, 1) := by decide +kernel
theorem d_TP_undo_8 : decode b_TP_undo 8 = .ok (.ldc 247, 2) := by decide +kernel
theorem d_TP_undo_10 : decode b_TP_undo 10 = .ok (.invokevirtual 58, 3) := by decide +kernel
theorem d_TP_undo_13 : decode b_TP_undo 13 = .ok (.ireturn, 1) := by decide +kernel
theorem d_TP_undo_14 : decode b_TP_undo 14 = .ok (.aload_n 0, 1) := by decide +kernel
theorem d_TP_undo_15 : decode b_TP_undo 15 = .ok (.getfield 12, 3) := by decide +kernel
theorem d_TP_undo_18 : decode b_TP_undo 18 = .ok (.aload_n 0, 1) := by decide +kernel
theorem d_TP_undo_19 : decode b_TP_undo 19 = .ok (.getfield 19, 3) := by decide +kernel
theorem d_TP_undo_22 : decode b_TP_undo 22 = .ok (.invokevirtual 196, 3) := by decide +kernel
theorem d_TP_undo_25 : decode b_TP_undo 25 = .ok (.aload_n 0, 1) := by decide +kernel
theorem d_TP_undo_26 : decode b_TP_undo 26 = .ok (.getfield 12, 3) := by decide +kernel
theorem d_TP_undo_29 : decode b_TP_undo 29 = .ok (.getfield 113, 3) := by decide +kernel
theorem d_TP_undo_32 : decode b_TP_undo 32 = .ok (.ireturn, 1) := by decide +kernel
theorem d_TP_tear_0 : decode b_TP_tear 0 = .ok (.aload_n 0, 1) := by decide +kernel
theorem d_TP_tear_1 : decode b_TP_tear 1 = .ok (.getfield 22, 3) := by decide +kernel
theorem d_TP_tear_4 : decode b_TP_tear 4 = .ok (.ifCond .eq 7, 3) := by decide +kernel
theorem d_TP_tear_7 : decode b_TP_tear 7 = .ok (.iconst 1, 1) := by decide +kernel
theorem d_TP_tear_8 : decode b_TP_tear 8 = .ok (.goto 4, 3) := by decide +kernel
theorem d_TP_tear_11 : decode b_TP_tear 11 = .ok (.iconst 0, 1) := by decide +kernel
theorem d_TP_tear_12 : decode b_TP_tear 12 = .ok (.istore_n 1, 1) := by decide +kernel
theorem d_TP_tear_13 : decode b_TP_tear 13 = .ok (.aload_n 0, 1) := by decide +kernel
theorem d_TP_tear_14 : decode b_TP_tear 14 = .ok (.iconst 0, 1) := by decide +kernel
theorem d_TP_tear_15 : decode b_TP_tear 15 = .ok (.putfield 22, 3) := by decide +kernel
theorem d_TP_tear_18 : decode b_TP_tear 18 = .ok (.iload_n 1, 1) := by decide +kernel
theorem d_TP_tear_19 : decode b_TP_tear 19 = .ok (.ireturn, 1) := by decide +kernel
theorem d_TP_count_0 : decode b_TP_count 0 = .ok (.iload_n 1, 1) := by decide +kernel
theorem d_TP_count_1 : decode b_TP_count 1 = .ok (.tableswitch 114 0 7 #[47, 55, 63, 71, 79, 90, 98, 106], 47) := by decide +kernel
theorem d_TP_count_48 : decode b_TP_count 48 = .ok (.aload_n 0, 1) := by decide +kernel
theorem d_TP_count_49 : decode b_TP_count 49 = .ok (.getfield 12, 3) := by decide +kernel
theorem d_TP_count_52 : decode b_TP_count 52 = .ok (.getfield 113, 3) := by decide +kernel
theorem d_TP_count_55 : decode b_TP_count 55 = .ok (.ireturn, 1) := by decide +kernel
theorem d_TP_count_56 : decode b_TP_count 56 = .ok (.aload_n 0, 1) := by decide +kernel
theorem d_TP_count_57 : decode b_TP_count 57 = .ok (.getfield 12, 3) := by decide +kernel
theorem d_TP_count_60 : decode b_TP_count 60 = .ok (.getfield 248, 3) := by decide +kernel
theorem d_TP_count_63 : decode b_TP_count 63 = .ok (.ireturn, 1) := by decide +kernel
theorem d_TP_count_64 : decode b_TP_count 64 = .ok (.aload_n 0, 1) := by decide +kernel
theorem d_TP_count_65 : decode b_TP_count 65 = .ok (.getfield 12, 3) := by decide +kernel
theorem d_TP_count_68 : decode b_TP_count 68 = .ok (.getfield 62, 3) := by decide +kernel
theorem d_TP_count_71 : decode b_TP_count 71 = .ok (.ireturn, 1) := by decide +kernel
theorem d_TP_count_72 : decode b_TP_count 72 = .ok (.aload_n 0, 1) := by decide +kernel
theorem d_TP_count_73 : decode b_TP_count 73 = .ok (.getfield 12, 3) := by decide +kernel
theorem d_TP_count_76 : decode b_TP_count 76 = .ok (.invokevirtual 116, 3) := by decide +kernel
theorem d_TP_count_79 : decode b_TP_count 79 = .ok (.ireturn, 1) := by decide +kernel
theorem d_TP_count_80 : decode b_TP_count 80 = .ok (.aload_n 0, 1) := by decide +kernel
theorem d_TP_count_81 : decode b_TP_count 81 = .ok (.getfield 12, 3) := by decide +kernel
theorem d_TP_count_84 : decode b_TP_count 84 = .ok (.invokevirtual 123, 3) := by decide +kernel
theorem d_TP_count_87 : decode b_TP_count 87 = .ok (.invokestatic 251, 3) := by decide +kernel
theorem d_TP_count_90 : decode b_TP_count 90 = .ok (.ireturn, 1) := by decide +kernel
theorem d_TP_count_91 : decode b_TP_count 91 = .ok (.aload_n 0, 1) := by decide +kernel
theorem d_TP_count_92 : decode b_TP_count 92 = .ok (.getfield 38, 3) := by decide +kernel
theorem d_TP_count_95 : decode b_TP_count 95 = .ok (.getfield 190, 3) := by decide +kernel
theorem d_TP_count_98 : decode b_TP_count 98 = .ok (.ireturn, 1) := by decide +kernel
theorem d_TP_count_99 : decode b_TP_count 99 = .ok (.aload_n 0, 1) := by decide +kernel
theorem d_TP_count_100 : decode b_TP_count 100 = .ok (.getfield 12, 3) := by decide +kernel
theorem d_TP_count_103 : decode b_TP_count 103 = .ok (.getfield 187, 3) := by decide +kernel
theorem d_TP_count_106 : decode b_TP_count 106 = .ok (.ireturn, 1) := by decide +kernel
theorem d_TP_count_107 : decode b_TP_count 107 = .ok (.aload_n 0, 1) := by decide +kernel
theorem d_TP_count_108 : decode b_TP_count 108 = .ok (.getfield 12, 3) := by decide +kernel
theorem d_TP_count_111 : decode b_TP_count 111 = .ok (.invokevirtual 256, 3) := by decide +kernel
theorem d_TP_count_114 : decode b_TP_count 114 = .ok (.ireturn, 1) := by decide +kernel
theorem d_TP_count_115 : decode b_TP_count 115 = .ok (.aload_n 0, 1) := by decide +kernel
theorem d_TP_count_116 : decode b_TP_count 116 = .ok (.ldc 57, 2) := by decide +kernel
theorem d_TP_count_118 : decode b_TP_count 118 = .ok (.invokevirtual 58, 3) := by decide +kernel
theorem d_TP_count_121 : decode b_TP_count 121 = .ok (.ireturn, 1) := by decide +kernel
theorem d_TP_status_0 : decode b_TP_status 0 = .ok (.iload_n 1, 1) := by decide +kernel
theorem d_TP_status_1 : decode b_TP_status 1 = .ok (.iconst (-1), 1) := by decide +kernel
theorem d_TP_status_2 : decode b_TP_status 2 = .ok (.if_icmp .ne 8, 3) := by decide +kernel
theorem d_TP_status_5 : decode b_TP_status 5 = .ok (.aload_n 0, 1) := by decide +kernel
theorem d_TP_status_6 : decode b_TP_status 6 = .ok (.invokevirtual 259, 3) := by decide +kernel
theorem d_TP_status_9 : decode b_TP_status 9 = .ok (.ireturn, 1) := by decide +kernel
theorem d_TP_status_10 : decode b_TP_status 10 = .ok (.iload_n 1, 1) := by decide +kernel
theorem d_TP_status_11 : decode b_TP_status 11 = .ok (.bipush 6, 2) := by decide +kernel
theorem d_TP_status_13 : decode b_TP_status 13 = .ok (.invokestatic 53, 3) := by decide +kernel
theorem d_TP_status_16 : decode b_TP_status 16 = .ok (.ifCond .eq 12, 3) := by decide +kernel
theorem d_TP_status_19 : decode b_TP_status 19 = .ok (.aload_n 0, 1) := by decide +kernel
theorem d_TP_status_20 : decode b_TP_status 20 = .ok (.getfield 48, 3) := by decide +kernel
theorem d_TP_status_23 : decode b_TP_status 23 = .ok (.iload_n 1, 1) := by decide +kernel
theorem d_TP_status_24 : decode b_TP_status 24 = .ok (.iaload, 1) := by decide +kernel
theorem d_TP_status_25 : decode b_TP_status 25 = .ok (.goto 9, 3) := by decide +kernel
theorem d_TP_status_28 : decode b_TP_status 28 = .ok (.aload_n 0, 1) := by decide +kernel
theorem d_TP_status_29 : decode b_TP_status 29 = .ok (.ldc 57, 2) := by decide +kernel
theorem d_TP_status_31 : decode b_TP_status 31 = .ok (.invokevirtual 58, 3) := by decide +kernel
theorem d_TP_status_34 : decode b_TP_status 34 = .ok (.ireturn, 1) := by decide +kernel
theorem d_TP_within_0 : decode b_TP_within 0 = .ok (.iload_n 0, 1) := by decide +kernel
theorem d_TP_within_1 : decode b_TP_within 1 = .ok (.ifCond .lt 12, 3) := by decide +kernel
theorem d_TP_within_4 : decode b_TP_within 4 = .ok (.iload_n 0, 1) := by decide +kernel
theorem d_TP_within_5 : decode b_TP_within 5 = .ok (.iload_n 1, 1) := by decide +kernel
theorem d_TP_within_6 : decode b_TP_within 6 = .ok (.if_icmp .gt 7, 3) := by decide +kernel
theorem d_TP_within_9 : decode b_TP_within 9 = .ok (.iconst 1, 1) := by decide +kernel
theorem d_TP_within_10 : decode b_TP_within 10 = .ok (.goto 4, 3) := by decide +kernel
theorem d_TP_within_13 : decode b_TP_within 13 = .ok (.iconst 0, 1) := by decide +kernel
theorem d_TP_within_14 : decode b_TP_within 14 = .ok (.ireturn, 1) := by decide +kernel
theorem d_TP_found_0 : decode b_TP_found 0 = .ok (.ldc 57, 2) := by decide +kernel
theorem d_TP_found_2 : decode b_TP_found 2 = .ok (.iload_n 1, 1) := by decide +kernel
theorem d_TP_found_3 : decode b_TP_found 3 = .ok (.isub, 1) := by decide +kernel
theorem d_TP_found_4 : decode b_TP_found 4 = .ok (.istore_n 2, 1) := by decide +kernel
theorem d_TP_found_5 : decode b_TP_found 5 = .ok (.iload_n 2, 1) := by decide +kernel
theorem d_TP_found_6 : decode b_TP_found 6 = .ok (.bipush 6, 2) := by decide +kernel
theorem d_TP_found_8 : decode b_TP_found 8 = .ok (.invokestatic 53, 3) := by decide +kernel
theorem d_TP_found_11 : decode b_TP_found 11 = .ok (.ifCond .eq 13, 3) := by decide +kernel
theorem d_TP_found_14 : decode b_TP_found 14 = .ok (.aload_n 0, 1) := by decide +kernel
theorem d_TP_found_15 : decode b_TP_found 15 = .ok (.getfield 48, 3) := by decide +kernel
theorem d_TP_found_18 : decode b_TP_found 18 = .ok (.iload_n 2, 1) := by decide +kernel
theorem d_TP_found_19 : decode b_TP_found 19 = .ok (.dup2, 1) := by decide +kernel
theorem d_TP_found_20 : decode b_TP_found 20 = .ok (.iaload, 1) := by decide +kernel
theorem d_TP_found_21 : decode b_TP_found 21 = .ok (.iconst 1, 1) := by decide +kernel
theorem d_TP_found_22 : decode b_TP_found 22 = .ok (.iadd, 1) := by decide +kernel
theorem d_TP_found_23 : decode b_TP_found 23 = .ok (.iastore, 1) := by decide +kernel
theorem d_TP_found_24 : decode b_TP_found 24 = .ok (.iload_n 1, 1) := by decide +kernel
theorem d_TP_found_25 : decode b_TP_found 25 = .ok (.ireturn, 1) := by decide +kernel
theorem d_TP_orNone_0 : decode b_TP_orNone 0 = .ok (.iload_n 1, 1) := by decide +kernel
theorem d_TP_orNone_1 : decode b_TP_orNone 1 = .ok (.ifCond .ge 12, 3) := by decide +kernel
theorem d_TP_orNone_4 : decode b_TP_orNone 4 = .ok (.aload_n 0, 1) := by decide +kernel
theorem d_TP_orNone_5 : decode b_TP_orNone 5 = .ok (.ldc 247, 2) := by decide +kernel
theorem d_TP_orNone_7 : decode b_TP_orNone 7 = .ok (.invokevirtual 58, 3) := by decide +kernel
theorem d_TP_orNone_10 : decode b_TP_orNone 10 = .ok (.goto 4, 3) := by decide +kernel
theorem d_TP_orNone_13 : decode b_TP_orNone 13 = .ok (.iload_n 1, 1) := by decide +kernel
theorem d_TP_orNone_14 : decode b_TP_orNone 14 = .ok (.ireturn, 1) := by decide +kernel
theorem d_TP_allFindings_0 : decode b_TP_allFindings 0 = .ok (.iconst 0, 1) := by decide +kernel
theorem d_TP_allFindings_1 : decode b_TP_allFindings 1 = .ok (.istore_n 1, 1) := by decide +kernel
theorem d_TP_allFindings_2 : decode b_TP_allFindings 2 = .ok (.iconst 0, 1) := by decide +kernel
theorem d_TP_allFindings_3 : decode b_TP_allFindings 3 = .ok (.istore_n 2, 1) := by decide +kernel
theorem d_TP_allFindings_4 : decode b_TP_allFindings 4 = .ok (.iload_n 2, 1) := by decide +kernel
theorem d_TP_allFindings_5 : decode b_TP_allFindings 5 = .ok (.bipush 7, 2) := by decide +kernel
theorem d_TP_allFindings_7 : decode b_TP_allFindings 7 = .ok (.if_icmp .ge 18, 3) := by decide +kernel
theorem d_TP_allFindings_10 : decode b_TP_allFindings 10 = .ok (.iload_n 1, 1) := by decide +kernel
theorem d_TP_allFindings_11 : decode b_TP_allFindings 11 = .ok (.aload_n 0, 1) := by decide +kernel
theorem d_TP_allFindings_12 : decode b_TP_allFindings 12 = .ok (.getfield 48, 3) := by decide +kernel
theorem d_TP_allFindings_15 : decode b_TP_allFindings 15 = .ok (.iload_n 2, 1) := by decide +kernel
theorem d_TP_allFindings_16 : decode b_TP_allFindings 16 = .ok (.iaload, 1) := by decide +kernel
theorem d_TP_allFindings_17 : decode b_TP_allFindings 17 = .ok (.iadd, 1) := by decide +kernel
theorem d_TP_allFindings_18 : decode b_TP_allFindings 18 = .ok (.istore_n 1, 1) := by decide +kernel
theorem d_TP_allFindings_19 : decode b_TP_allFindings 19 = .ok (.iinc 2 1, 3) := by decide +kernel
theorem d_TP_allFindings_22 : decode b_TP_allFindings 22 = .ok (.goto (-18), 3) := by decide +kernel
theorem d_TP_allFindings_25 : decode b_TP_allFindings 25 = .ok (.iload_n 1, 1) := by decide +kernel
theorem d_TP_allFindings_26 : decode b_TP_allFindings 26 = .ok (.ireturn, 1) := by decide +kernel
theorem d_TP_sheetFinding_0 : decode b_TP_sheetFinding 0 = .ok (.iload_n 1, 1) := by decide +kernel
theorem d_TP_sheetFinding_1 : decode b_TP_sheetFinding 1 = .ok (.iconst 3, 1) := by decide +kernel
theorem d_TP_sheetFinding_2 : decode b_TP_sheetFinding 2 = .ok (.invokestatic 53, 3) := by decide +kernel
theorem d_TP_sheetFinding_5 : decode b_TP_sheetFinding 5 = .ok (.ifCond .ne 6, 3) := by decide +kernel
theorem d_TP_sheetFinding_8 : decode b_TP_sheetFinding 8 = .ok (.ldc 57, 2) := by decide +kernel
theorem d_TP_sheetFinding_10 : decode b_TP_sheetFinding 10 = .ok (.ireturn, 1) := by decide +kernel
theorem d_TP_sheetFinding_11 : decode b_TP_sheetFinding 11 = .ok (.aload_n 0, 1) := by decide +kernel
theorem d_TP_sheetFinding_12 : decode b_TP_sheetFinding 12 = .ok (.getfield 44, 3) := by decide +kernel
theorem d_TP_sheetFinding_15 : decode b_TP_sheetFinding 15 = .ok (.iload_n 1, 1) := by decide +kernel
theorem d_TP_sheetFinding_16 : decode b_TP_sheetFinding 16 = .ok (.aaload, 1) := by decide +kernel
theorem d_TP_sheetFinding_17 : decode b_TP_sheetFinding 17 = .ok (.invokevirtual 223, 3) := by decide +kernel
theorem d_TP_sheetFinding_20 : decode b_TP_sheetFinding 20 = .ok (.ifCond .eq 8, 3) := by decide +kernel
theorem d_TP_sheetFinding_23 : decode b_TP_sheetFinding 23 = .ok (.ldc 207, 2) := by decide +kernel
theorem d_TP_sheetFinding_25 : decode b_TP_sheetFinding 25 = .ok (.goto 4, 3) := by decide +kernel
theorem d_TP_sheetFinding_28 : decode b_TP_sheetFinding 28 = .ok (.iconst 0, 1) := by decide +kernel
theorem d_TP_sheetFinding_29 : decode b_TP_sheetFinding 29 = .ok (.ireturn, 1) := by decide +kernel
theorem d_TP_toldFinding_0 : decode b_TP_toldFinding 0 = .ok (.aload_n 0, 1) := by decide +kernel
theorem d_TP_toldFinding_1 : decode b_TP_toldFinding 1 = .ok (.iload_n 1, 1) := by decide +kernel
theorem d_TP_toldFinding_2 : decode b_TP_toldFinding 2 = .ok (.invokevirtual 217, 3) := by decide +kernel
theorem d_TP_toldFinding_5 : decode b_TP_toldFinding 5 = .ok (.istore_n 3, 1) := by decide +kernel
theorem d_TP_toldFinding_6 : decode b_TP_toldFinding 6 = .ok (.iload_n 3, 1) := by decide +kernel
theorem d_TP_toldFinding_7 : decode b_TP_toldFinding 7 = .ok (.ifCond .ge 5, 3) := by decide +kernel
theorem d_TP_toldFinding_10 : decode b_TP_toldFinding 10 = .ok (.iload_n 3, 1) := by decide +kernel
theorem d_TP_toldFinding_11 : decode b_TP_toldFinding 11 = .ok (.ireturn, 1) := by decide +kernel
theorem d_TP_toldFinding_12 : decode b_TP_toldFinding 12 = .ok (.aload_n 0, 1) := by decide +kernel
theorem d_TP_toldFinding_13 : decode b_TP_toldFinding 13 = .ok (.getfield 12, 3) := by decide +kernel
theorem d_TP_toldFinding_16 : decode b_TP_toldFinding 16 = .ok (.iload_n 2, 1) := by decide +kernel
theorem d_TP_toldFinding_17 : decode b_TP_toldFinding 17 = .ok (.invokevirtual 78, 3) := by decide +kernel
theorem d_TP_toldFinding_20 : decode b_TP_toldFinding 20 = .ok (.ifCond .eq 7, 3) := by decide +kernel
theorem d_TP_toldFinding_23 : decode b_TP_toldFinding 23 = .ok (.iconst 0, 1) := by decide +kernel
theorem d_TP_toldFinding_24 : decode b_TP_toldFinding 24 = .ok (.goto 5, 3) := by decide +kernel
theorem d_TP_toldFinding_27 : decode b_TP_toldFinding 27 = .ok (.ldc 57, 2) := by decide +kernel
theorem d_TP_toldFinding_29 : decode b_TP_toldFinding 29 = .ok (.ireturn, 1) := by decide +kernel
theorem d_TP_commonDivisor_0 : decode b_TP_commonDivisor 0 = .ok (.iconst 1, 1) := by decide +kernel
theorem d_TP_commonDivisor_1 : decode b_TP_commonDivisor 1 = .ok (.iload_n 0, 1) := by decide +kernel
theorem d_TP_commonDivisor_2 : decode b_TP_commonDivisor 2 = .ok (.iload_n 1, 1) := by decide +kernel
theorem d_TP_commonDivisor_3 : decode b_TP_commonDivisor 3 = .ok (.invokestatic 262, 3) := by decide +kernel
theorem d_TP_commonDivisor_6 : decode b_TP_commonDivisor 6 = .ok (.invokestatic 262, 3) := by decide +kernel
theorem d_TP_commonDivisor_9 : decode b_TP_commonDivisor 9 = .ok (.istore_n 2, 1) := by decide +kernel
theorem d_TP_commonDivisor_10 : decode b_TP_commonDivisor 10 = .ok (.iload_n 2, 1) := by decide +kernel
theorem d_TP_commonDivisor_11 : decode b_TP_commonDivisor 11 = .ok (.iconst 1, 1) := by decide +kernel
theorem d_TP_commonDivisor_12 : decode b_TP_commonDivisor 12 = .ok (.if_icmp .le 21, 3) := by decide +kernel
theorem d_TP_commonDivisor_15 : decode b_TP_commonDivisor 15 = .ok (.iload_n 0, 1) := by decide +kernel
theorem d_TP_commonDivisor_16 : decode b_TP_commonDivisor 16 = .ok (.iload_n 2, 1) := by decide +kernel
theorem d_TP_commonDivisor_17 : decode b_TP_commonDivisor 17 = .ok (.irem, 1) := by decide +kernel
theorem d_TP_commonDivisor_18 : decode b_TP_commonDivisor 18 = .ok (.ifCond .ne 9, 3) := by decide +kernel
theorem d_TP_commonDivisor_21 : decode b_TP_commonDivisor 21 = .ok (.iload_n 1, 1) := by decide +kernel
theorem d_TP_commonDivisor_22 : decode b_TP_commonDivisor 22 = .ok (.iload_n 2, 1) := by decide +kernel
theorem d_TP_commonDivisor_23 : decode b_TP_commonDivisor 23 = .ok (.irem, 1) := by decide +kernel
theorem d_TP_commonDivisor_24 : decode b_TP_commonDivisor 24 = .ok (.ifCond .eq 9, 3) := by decide +kernel
theorem d_TP_commonDivisor_27 : decode b_TP_commonDivisor 27 = .ok (.iinc 2 (-1), 3) := by decide +kernel
theorem d_TP_commonDivisor_30 : decode b_TP_commonDivisor 30 = .ok (.goto (-20), 3) := by decide +kernel
theorem d_TP_commonDivisor_33 : decode b_TP_commonDivisor 33 = .ok (.iload_n 2, 1) := by decide +kernel
theorem d_TP_commonDivisor_34 : decode b_TP_commonDivisor 34 = .ok (.ireturn, 1) := by decide +kernel
theorem d_TP_power_0 : decode b_TP_power 0 = .ok (.lconst 1, 1) := by decide +kernel
theorem d_TP_power_1 : decode b_TP_power 1 = .ok (.lstore_n 3, 1) := by decide +kernel
theorem d_TP_power_2 : decode b_TP_power 2 = .ok (.iconst 0, 1) := by decide +kernel
theorem d_TP_power_3 : decode b_TP_power 3 = .ok (.istore 5, 2) := by decide +kernel
theorem d_TP_power_5 : decode b_TP_power 5 = .ok (.iload 5, 2) := by decide +kernel
theorem d_TP_power_7 : decode b_TP_power 7 = .ok (.iload_n 2, 1) := by decide +kernel
theorem d_TP_power_8 : decode b_TP_power 8 = .ok (.if_icmp .ge 13, 3) := by decide +kernel
theorem d_TP_power_11 : decode b_TP_power 11 = .ok (.lload_n 3, 1) := by decide +kernel
theorem d_TP_power_12 : decode b_TP_power 12 = .ok (.lload_n 0, 1) := by decide +kernel
theorem d_TP_power_13 : decode b_TP_power 13 = .ok (.lmul, 1) := by decide +kernel
theorem d_TP_power_14 : decode b_TP_power 14 = .ok (.lstore_n 3, 1) := by decide +kernel
theorem d_TP_power_15 : decode b_TP_power 15 = .ok (.iinc 5 1, 3) := by decide +kernel
theorem d_TP_power_18 : decode b_TP_power 18 = .ok (.goto (-13), 3) := by decide +kernel
theorem d_TP_power_21 : decode b_TP_power 21 = .ok (.lload_n 3, 1) := by decide +kernel
theorem d_TP_power_22 : decode b_TP_power 22 = .ok (.lreturn, 1) := by decide +kernel
