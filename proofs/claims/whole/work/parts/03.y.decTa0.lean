theorem d_Ta_init_0 : decode b_Ta_init 0 = .ok (.aload_n 0, 1) := by decide +kernel
theorem d_Ta_init_1 : decode b_Ta_init 1 = .ok (.invokespecial 3, 3) := by decide +kernel
theorem d_Ta_init_4 : decode b_Ta_init 4 = .ok (.aload_n 0, 1) := by decide +kernel
theorem d_Ta_init_5 : decode b_Ta_init 5 = .ok (.iconst 0, 1) := by decide +kernel
theorem d_Ta_init_6 : decode b_Ta_init 6 = .ok (.putfield 9, 3) := by decide +kernel
theorem d_Ta_init_9 : decode b_Ta_init 9 = .ok (.aload_n 0, 1) := by decide +kernel
theorem d_Ta_init_10 : decode b_Ta_init 10 = .ok (.bipush 120, 2) := by decide +kernel
theorem d_Ta_init_12 : decode b_Ta_init 12 = .ok (.newarray .byte, 2) := by decide +kernel
theorem d_Ta_init_14 : decode b_Ta_init 14 = .ok (.putfield 15, 3) := by decide +kernel
theorem d_Ta_init_17 : decode b_Ta_init 17 = .ok (.return_, 1) := by decide +kernel
theorem d_Ta_append_0 : decode b_Ta_append 0 = .ok (.iload_n 2, 1) := by decide +kernel
theorem d_Ta_append_1 : decode b_Ta_append 1 = .ok (.iconst 1, 1) := by decide +kernel
theorem d_Ta_append_2 : decode b_Ta_append 2 = .ok (.isub, 1) := by decide +kernel
theorem d_Ta_append_3 : decode b_Ta_append 3 = .ok (.istore_n 3, 1) := by decide +kernel
theorem d_Ta_append_4 : decode b_Ta_append 4 = .ok (.iload_n 3, 1) := by decide +kernel
theorem d_Ta_append_5 : decode b_Ta_append 5 = .ok (.ifCond .lt 35, 3) := by decide +kernel
theorem d_Ta_append_8 : decode b_Ta_append 8 = .ok (.aload_n 0, 1) := by decide +kernel
theorem d_Ta_append_9 : decode b_Ta_append 9 = .ok (.getfield 15, 3) := by decide +kernel
theorem d_Ta_append_12 : decode b_Ta_append 12 = .ok (.aload_n 0, 1) := by decide +kernel
theorem d_Ta_append_13 : decode b_Ta_append 13 = .ok (.getfield 9, 3) := by decide +kernel
theorem d_Ta_append_16 : decode b_Ta_append 16 = .ok (.iload_n 1, 1) := by decide +kernel
theorem d_Ta_append_17 : decode b_Ta_append 17 = .ok (.bipush 8, 2) := by decide +kernel
theorem d_Ta_append_19 : decode b_Ta_append 19 = .ok (.iload_n 3, 1) := by decide +kernel
theorem d_Ta_append_20 : decode b_Ta_append 20 = .ok (.imul, 1) := by decide +kernel
theorem d_Ta_append_21 : decode b_Ta_append 21 = .ok (.ishr, 1) := by decide +kernel
theorem d_Ta_append_22 : decode b_Ta_append 22 = .ok (.i2b, 1) := by decide +kernel
theorem d_Ta_append_23 : decode b_Ta_append 23 = .ok (.bastore, 1) := by decide +kernel
theorem d_Ta_append_24 : decode b_Ta_append 24 = .ok (.aload_n 0, 1) := by decide +kernel
theorem d_Ta_append_25 : decode b_Ta_append 25 = .ok (.dup, 1) := by decide +kernel
theorem d_Ta_append_26 : decode b_Ta_append 26 = .ok (.getfield 9, 3) := by decide +kernel
theorem d_Ta_append_29 : decode b_Ta_append 29 = .ok (.iconst 1, 1) := by decide +kernel
theorem d_Ta_append_30 : decode b_Ta_append 30 = .ok (.iadd, 1) := by decide +kernel
theorem d_Ta_append_31 : decode b_Ta_append 31 = .ok (.putfield 9, 3) := by decide +kernel
theorem d_Ta_append_34 : decode b_Ta_append 34 = .ok (.iinc 3 (-1), 3) := by decide +kernel
theorem d_Ta_append_37 : decode b_Ta_append 37 = .ok (.goto (-33), 3) := by decide +kernel
theorem d_Ta_append_40 : decode b_Ta_append 40 = .ok (.return_, 1) := by decide +kernel
theorem d_Ta_readInto_0 : decode b_Ta_readInto 0 = .ok (.aload_n 0, 1) := by decide +kernel
theorem d_Ta_readInto_1 : decode b_Ta_readInto 1 = .ok (.iconst 0, 1) := by decide +kernel
theorem d_Ta_readInto_2 : decode b_Ta_readInto 2 = .ok (.putfield 19, 3) := by decide +kernel
theorem d_Ta_readInto_5 : decode b_Ta_readInto 5 = .ok (.aload_n 0, 1) := by decide +kernel
theorem d_Ta_readInto_6 : decode b_Ta_readInto 6 = .ok (.invokevirtual 22, 3) := by decide +kernel
theorem d_Ta_readInto_9 : decode b_Ta_readInto 9 = .ok (.iconst 0, 1) := by decide +kernel
theorem d_Ta_readInto_10 : decode b_Ta_readInto 10 = .ok (.istore_n 2, 1) := by decide +kernel
theorem d_Ta_readInto_11 : decode b_Ta_readInto 11 = .ok (.iconst 1, 1) := by decide +kernel
theorem d_Ta_readInto_12 : decode b_Ta_readInto 12 = .ok (.istore_n 3, 1) := by decide +kernel
theorem d_Ta_readInto_13 : decode b_Ta_readInto 13 = .ok (.iload_n 3, 1) := by decide +kernel
theorem d_Ta_readInto_14 : decode b_Ta_readInto 14 = .ok (.ifCond .eq 73, 3) := by decide +kernel
theorem d_Ta_readInto_17 : decode b_Ta_readInto 17 = .ok (.iload_n 2, 1) := by decide +kernel
theorem d_Ta_readInto_18 : decode b_Ta_readInto 18 = .ok (.bipush 120, 2) := by decide +kernel
theorem d_Ta_readInto_20 : decode b_Ta_readInto 20 = .ok (.if_icmp .ge 67, 3) := by decide +kernel
theorem d_Ta_readInto_23 : decode b_Ta_readInto 23 = .ok (.aload_n 0, 1) := by decide +kernel
theorem d_Ta_readInto_24 : decode b_Ta_readInto 24 = .ok (.ldc 25, 2) := by decide +kernel
theorem d_Ta_readInto_26 : decode b_Ta_readInto 26 = .ok (.invokevirtual 27, 3) := by decide +kernel
theorem d_Ta_readInto_29 : decode b_Ta_readInto 29 = .ok (.ifCond .eq 11, 3) := by decide +kernel
theorem d_Ta_readInto_32 : decode b_Ta_readInto 32 = .ok (.aload_n 0, 1) := by decide +kernel
theorem d_Ta_readInto_33 : decode b_Ta_readInto 33 = .ok (.aload_n 1, 1) := by decide +kernel
theorem d_Ta_readInto_34 : decode b_Ta_readInto 34 = .ok (.invokevirtual 31, 3) := by decide +kernel
theorem d_Ta_readInto_37 : decode b_Ta_readInto 37 = .ok (.goto 25, 3) := by decide +kernel
theorem d_Ta_readInto_40 : decode b_Ta_readInto 40 = .ok (.aload_n 0, 1) := by decide +kernel
theorem d_Ta_readInto_41 : decode b_Ta_readInto 41 = .ok (.ldc 35, 2) := by decide +kernel
theorem d_Ta_readInto_43 : decode b_Ta_readInto 43 = .ok (.invokevirtual 27, 3) := by decide +kernel
theorem d_Ta_readInto_46 : decode b_Ta_readInto 46 = .ok (.ifCond .eq 11, 3) := by decide +kernel
theorem d_Ta_readInto_49 : decode b_Ta_readInto 49 = .ok (.aload_n 0, 1) := by decide +kernel
theorem d_Ta_readInto_50 : decode b_Ta_readInto 50 = .ok (.aload_n 1, 1) := by decide +kernel
theorem d_Ta_readInto_51 : decode b_Ta_readInto 51 = .ok (.invokevirtual 37, 3) := by decide +kernel
theorem d_Ta_readInto_54 : decode b_Ta_readInto 54 = .ok (.goto 8, 3) := by decide +kernel
theorem d_Ta_readInto_57 : decode b_Ta_readInto 57 = .ok (.aload_n 0, 1) := by decide +kernel
theorem d_Ta_readInto_58 : decode b_Ta_readInto 58 = .ok (.aload_n 1, 1) := by decide +kernel
theorem d_Ta_readInto_59 : decode b_Ta_readInto 59 = .ok (.invokevirtual 40, 3) := by decide +kernel
theorem d_Ta_readInto_62 : decode b_Ta_readInto 62 = .ok (.istore 4, 2) := by decide +kernel
theorem d_Ta_readInto_64 : decode b_Ta_readInto 64 = .ok (.iload 4, 2) := by decide +kernel
theorem d_Ta_readInto_66 : decode b_Ta_readInto 66 = .ok (.ifCond .ne 10, 3) := by decide +kernel
theorem d_Ta_readInto_69 : decode b_Ta_readInto 69 = .ok (.iconst (-1), 1) := by decide +kernel
theorem d_Ta_readInto_70 : decode b_Ta_readInto 70 = .ok (.aload_n 0, 1) := by decide +kernel
theorem d_Ta_readInto_71 : decode b_Ta_readInto 71 = .ok (.getfield 43, 3) := by decide +kernel
theorem d_Ta_readInto_74 : decode b_Ta_readInto 74 = .ok (.isub, 1) := by decide +kernel
theorem d_Ta_readInto_75 : decode b_Ta_readInto 75 = .ok (.ireturn, 1) := by decide +kernel
theorem d_Ta_readInto_76 : decode b_Ta_readInto 76 = .ok (.iinc 2 1, 3) := by decide +kernel
theorem d_Ta_readInto_79 : decode b_Ta_readInto 79 = .ok (.aload_n 0, 1) := by decide +kernel
theorem d_Ta_readInto_80 : decode b_Ta_readInto 80 = .ok (.invokevirtual 46, 3) := by decide +kernel
theorem d_Ta_readInto_83 : decode b_Ta_readInto 83 = .ok (.istore_n 3, 1) := by decide +kernel
theorem d_Ta_readInto_84 : decode b_Ta_readInto 84 = .ok (.goto (-71), 3) := by decide +kernel
theorem d_Ta_readInto_87 : decode b_Ta_readInto 87 = .ok (.aload_n 0, 1) := by decide +kernel
theorem d_Ta_readInto_88 : decode b_Ta_readInto 88 = .ok (.getfield 50, 3) := by decide +kernel
theorem d_Ta_readInto_91 : decode b_Ta_readInto 91 = .ok (.ifCond .ne 7, 3) := by decide +kernel
theorem d_Ta_readInto_94 : decode b_Ta_readInto 94 = .ok (.iload_n 2, 1) := by decide +kernel
theorem d_Ta_readInto_95 : decode b_Ta_readInto 95 = .ok (.goto 9, 3) := by decide +kernel
theorem d_Ta_readInto_98 : decode b_Ta_readInto 98 = .ok (.iconst (-1), 1) := by decide +kernel
theorem d_Ta_readInto_99 : decode b_Ta_readInto 99 = .ok (.aload_n 0, 1) := by decide +kernel
theorem d_Ta_readInto_100 : decode b_Ta_readInto 100 = .ok (.getfield 43, 3) := by decide +kernel
theorem d_Ta_readInto_103 : decode b_Ta_readInto 103 = .ok (.isub, 1) := by decide +kernel
theorem d_Ta_readInto_104 : decode b_Ta_readInto 104 = .ok (.ireturn, 1) := by decide +kernel
theorem d_Ta_takePlace_0 : decode b_Ta_takePlace 0 = .ok (.aload_n 0, 1) := by decide +kernel
theorem d_Ta_takePlace_1 : decode b_Ta_takePlace 1 = .ok (.iconst 5, 1) := by decide +kernel
theorem d_Ta_takePlace_2 : decode b_Ta_takePlace 2 = .ok (.invokevirtual 53, 3) := by decide +kernel
theorem d_Ta_takePlace_5 : decode b_Ta_takePlace 5 = .ok (.istore_n 2, 1) := by decide +kernel
theorem d_Ta_takePlace_6 : decode b_Ta_takePlace 6 = .ok (.iload_n 2, 1) := by decide +kernel
theorem d_Ta_takePlace_7 : decode b_Ta_takePlace 7 = .ok (.ifCond .ge 5, 3) := by decide +kernel
theorem d_Ta_takePlace_10 : decode b_Ta_takePlace 10 = .ok (.iconst 0, 1) := by decide +kernel
theorem d_Ta_takePlace_11 : decode b_Ta_takePlace 11 = .ok (.ireturn, 1) := by decide +kernel
theorem d_Ta_takePlace_12 : decode b_Ta_takePlace 12 = .ok (.aload_n 0, 1) := by decide +kernel
theorem d_Ta_takePlace_13 : decode b_Ta_takePlace 13 = .ok (.bipush 15, 2) := by decide +kernel
theorem d_Ta_takePlace_15 : decode b_Ta_takePlace 15 = .ok (.invokevirtual 53, 3) := by decide +kernel
theorem d_Ta_takePlace_18 : decode b_Ta_takePlace 18 = .ok (.istore_n 3, 1) := by decide +kernel
theorem d_Ta_takePlace_19 : decode b_Ta_takePlace 19 = .ok (.iload_n 3, 1) := by decide +kernel
theorem d_Ta_takePlace_20 : decode b_Ta_takePlace 20 = .ok (.ifCond .ge 5, 3) := by decide +kernel
theorem d_Ta_takePlace_23 : decode b_Ta_takePlace 23 = .ok (.iconst 0, 1) := by decide +kernel
theorem d_Ta_takePlace_24 : decode b_Ta_takePlace 24 = .ok (.ireturn, 1) := by decide +kernel
theorem d_Ta_takePlace_25 : decode b_Ta_takePlace 25 = .ok (.aload_n 1, 1) := by decide +kernel
theorem d_Ta_takePlace_26 : decode b_Ta_takePlace 26 = .ok (.getfield 57, 3) := by decide +kernel
theorem d_Ta_takePlace_29 : decode b_Ta_takePlace 29 = .ok (.iload_n 2, 1) := by decide +kernel
theorem d_Ta_takePlace_30 : decode b_Ta_takePlace 30 = .ok (.iload_n 3, 1) := by decide +kernel
theorem d_Ta_takePlace_31 : decode b_Ta_takePlace 31 = .ok (.iastore, 1) := by decide +kernel
theorem d_Ta_takePlace_32 : decode b_Ta_takePlace 32 = .ok (.iconst 1, 1) := by decide +kernel
theorem d_Ta_takePlace_33 : decode b_Ta_takePlace 33 = .ok (.ireturn, 1) := by decide +kernel
theorem d_Ta_takeGuns_0 : decode b_Ta_takeGuns 0 = .ok (.aload_n 0, 1) := by decide +kernel
theorem d_Ta_takeGuns_1 : decode b_Ta_takeGuns 1 = .ok (.bipush 99, 2) := by decide +kernel
theorem d_Ta_takeGuns_3 : decode b_Ta_takeGuns 3 = .ok (.invokevirtual 53, 3) := by decide +kernel
theorem d_Ta_takeGuns_6 : decode b_Ta_takeGuns 6 = .ok (.istore_n 2, 1) := by decide +kernel
theorem d_Ta_takeGuns_7 : decode b_Ta_takeGuns 7 = .ok (.iload_n 2, 1) := by decide +kernel
theorem d_Ta_takeGuns_8 : decode b_Ta_takeGuns 8 = .ok (.ifCond .ge 5, 3) := by decide +kernel
theorem d_Ta_takeGuns_11 : decode b_Ta_takeGuns 11 = .ok (.iconst 0, 1) := by decide +kernel
theorem d_Ta_takeGuns_12 : decode b_Ta_takeGuns 12 = .ok (.ireturn, 1) := by decide +kernel
theorem d_Ta_takeGuns_13 : decode b_Ta_takeGuns 13 = .ok (.aload_n 1, 1) := by decide +kernel
theorem d_Ta_takeGuns_14 : decode b_Ta_takeGuns 14 = .ok (.iload_n 2, 1) := by decide +kernel
theorem d_Ta_takeGuns_15 : decode b_Ta_takeGuns 15 = .ok (.putfield 63, 3) := by decide +kernel
theorem d_Ta_takeGuns_18 : decode b_Ta_takeGuns 18 = .ok (.iconst 1, 1) := by decide +kernel
theorem d_Ta_takeGuns_19 : decode b_Ta_takeGuns 19 = .ok (.ireturn, 1) := by decide +kernel
theorem d_Ta_takePerson_0 : decode b_Ta_takePerson 0 = .ok (.aload_n 1, 1) := by decide +kernel
theorem d_Ta_takePerson_1 : decode b_Ta_takePerson 1 = .ok (.invokevirtual 65, 3) := by decide +kernel
theorem d_Ta_takePerson_4 : decode b_Ta_takePerson 4 = .ok (.ifCond .eq 7, 3) := by decide +kernel
theorem d_Ta_takePerson_7 : decode b_Ta_takePerson 7 = .ok (.iconst (-1), 1) := by decide +kernel
theorem d_Ta_takePerson_8 : decode b_Ta_takePerson 8 = .ok (.goto 7, 3) := by decide +kernel
theorem d_Ta_takePerson_11 : decode b_Ta_takePerson 11 = .ok (.aload_n 0, 1) := by decide +kernel
theorem d_Ta_takePerson_12 : decode b_Ta_takePerson 12 = .ok (.invokevirtual 68, 3) := by decide +kernel
theorem d_Ta_takePerson_15 : decode b_Ta_takePerson 15 = .ok (.istore_n 2, 1) := by decide +kernel
theorem d_Ta_takePerson_16 : decode b_Ta_takePerson 16 = .ok (.iload_n 2, 1) := by decide +kernel
theorem d_Ta_takePerson_17 : decode b_Ta_takePerson 17 = .ok (.ifCond .ge 5, 3) := by decide +kernel
theorem d_Ta_takePerson_20 : decode b_Ta_takePerson 20 = .ok (.iconst 0, 1) := by decide +kernel
theorem d_Ta_takePerson_21 : decode b_Ta_takePerson 21 = .ok (.ireturn, 1) := by decide +kernel
theorem d_Ta_takePerson_22 : decode b_Ta_takePerson 22 = .ok (.aload_n 0, 1) := by decide +kernel
theorem d_Ta_takePerson_23 : decode b_Ta_takePerson 23 = .ok (.iconst 1, 1) := by decide +kernel
theorem d_Ta_takePerson_24 : decode b_Ta_takePerson 24 = .ok (.invokevirtual 53, 3) := by decide +kernel
theorem d_Ta_takePerson_27 : decode b_Ta_takePerson 27 = .ok (.istore_n 3, 1) := by decide +kernel
theorem d_Ta_takePerson_28 : decode b_Ta_takePerson 28 = .ok (.iload_n 3, 1) := by decide +kernel
theorem d_Ta_takePerson_29 : decode b_Ta_takePerson 29 = .ok (.ifCond .ge 5, 3) := by decide +kernel
theorem d_Ta_takePerson_32 : decode b_Ta_takePerson 32 = .ok (.iconst 0, 1) := by decide +kernel
theorem d_Ta_takePerson_33 : decode b_Ta_takePerson 33 = .ok (.ireturn, 1) := by decide +kernel
theorem d_Ta_takePerson_34 : decode b_Ta_takePerson 34 = .ok (.aload_n 1, 1) := by decide +kernel
theorem d_Ta_takePerson_35 : decode b_Ta_takePerson 35 = .ok (.getfield 72, 3) := by decide +kernel
theorem d_Ta_takePerson_38 : decode b_Ta_takePerson 38 = .ok (.aload_n 1, 1) := by decide +kernel
theorem d_Ta_takePerson_39 : decode b_Ta_takePerson 39 = .ok (.iload_n 2, 1) := by decide +kernel
theorem d_Ta_takePerson_40 : decode b_Ta_takePerson 40 = .ok (.iload_n 3, 1) := by decide +kernel
theorem d_Ta_takePerson_41 : decode b_Ta_takePerson 41 = .ok (.invokevirtual 76, 3) := by decide +kernel
theorem d_Ta_takePerson_44 : decode b_Ta_takePerson 44 = .ok (.aaload, 1) := by decide +kernel
theorem d_Ta_takePerson_45 : decode b_Ta_takePerson 45 = .ok (.astore 4, 2) := by decide +kernel
theorem d_Ta_takePerson_47 : decode b_Ta_takePerson 47 = .ok (.aload_n 0, 1) := by decide +kernel
theorem d_Ta_takePerson_48 : decode b_Ta_takePerson 48 = .ok (.ldc 80, 2) := by decide +kernel
theorem d_Ta_takePerson_50 : decode b_Ta_takePerson 50 = .ok (.aload 4, 2) := by decide +kernel
theorem d_Ta_takePerson_52 : decode b_Ta_takePerson 52 = .ok (.iconst 2, 1) := by decide +kernel
theorem d_Ta_takePerson_53 : decode b_Ta_takePerson 53 = .ok (.invokevirtual 82, 3) := by decide +kernel
theorem d_Ta_takePerson_56 : decode b_Ta_takePerson 56 = .ok (.ifCond .eq 43, 3) := by decide +kernel
theorem d_Ta_takePerson_59 : decode b_Ta_takePerson 59 = .ok (.aload_n 0, 1) := by decide +kernel
theorem d_Ta_takePerson_60 : decode b_Ta_takePerson 60 = .ok (.ldc 86, 2) := by decide +kernel
theorem d_Ta_takePerson_62 : decode b_Ta_takePerson 62 = .ok (.aload 4, 2) := by decide +kernel
theorem d_Ta_takePerson_64 : decode b_Ta_takePerson 64 = .ok (.iconst 3, 1) := by decide +kernel
theorem d_Ta_takePerson_65 : decode b_Ta_takePerson 65 = .ok (.invokevirtual 82, 3) := by decide +kernel
theorem d_Ta_takePerson_68 : decode b_Ta_takePerson 68 = .ok (.ifCond .eq 31, 3) := by decide +kernel
theorem d_Ta_takePerson_71 : decode b_Ta_takePerson 71 = .ok (.aload_n 0, 1) := by decide +kernel
theorem d_Ta_takePerson_72 : decode b_Ta_takePerson 72 = .ok (.ldc 88, 2) := by decide +kernel
theorem d_Ta_takePerson_74 : decode b_Ta_takePerson 74 = .ok (.aload 4, 2) := by decide +kernel
theorem d_Ta_takePerson_76 : decode b_Ta_takePerson 76 = .ok (.iconst 4, 1) := by decide +kernel
theorem d_Ta_takePerson_77 : decode b_Ta_takePerson 77 = .ok (.invokevirtual 82, 3) := by decide +kernel
theorem d_Ta_takePerson_80 : decode b_Ta_takePerson 80 = .ok (.ifCond .eq 19, 3) := by decide +kernel
theorem d_Ta_takePerson_83 : decode b_Ta_takePerson 83 = .ok (.aload_n 0, 1) := by decide +kernel
theorem d_Ta_takePerson_84 : decode b_Ta_takePerson 84 = .ok (.ldc 90, 2) := by decide +kernel
theorem d_Ta_takePerson_86 : decode b_Ta_takePerson 86 = .ok (.aload 4, 2) := by decide +kernel
theorem d_Ta_takePerson_88 : decode b_Ta_takePerson 88 = .ok (.iconst 5, 1) := by decide +kernel
theorem d_Ta_takePerson_89 : decode b_Ta_takePerson 89 = .ok (.invokevirtual 82, 3) := by decide +kernel
theorem d_Ta_takePerson_92 : decode b_Ta_takePerson 92 = .ok (.ifCond .eq 7, 3) := by decide +kernel
theorem d_Ta_takePerson_95 : decode b_Ta_takePerson 95 = .ok (.iconst 1, 1) := by decide +kernel
theorem d_Ta_takePerson_96 : decode b_Ta_takePerson 96 = .ok (.goto 4, 3) := by decide +kernel
theorem d_Ta_takePerson_99 : decode b_Ta_takePerson 99 = .ok (.iconst 0, 1) := by decide +kernel
theorem d_Ta_takePerson_100 : decode b_Ta_takePerson 100 = .ok (.ireturn, 1) := by decide +kernel
theorem d_Ta_takeKind_0 : decode b_Ta_takeKind 0 = .ok (.iconst 0, 1) := by decide +kernel
theorem d_Ta_takeKind_1 : decode b_Ta_takeKind 1 = .ok (.istore_n 1, 1) := by decide +kernel
theorem d_Ta_takeKind_2 : decode b_Ta_takeKind 2 = .ok (.iload_n 1, 1) := by decide +kernel
theorem d_Ta_takeKind_3 : decode b_Ta_takeKind 3 = .ok (.bipush 6, 2) := by decide +kernel
theorem d_Ta_takeKind_5 : decode b_Ta_takeKind 5 = .ok (.if_icmp .gt 22, 3) := by decide +kernel
theorem d_Ta_takeKind_8 : decode b_Ta_takeKind 8 = .ok (.aload_n 0, 1) := by decide +kernel
theorem d_Ta_takeKind_9 : decode b_Ta_takeKind 9 = .ok (.iload_n 1, 1) := by decide +kernel
theorem d_Ta_takeKind_10 : decode b_Ta_takeKind 10 = .ok (.invokestatic 92, 3) := by decide +kernel
theorem d_Ta_takeKind_13 : decode b_Ta_takeKind 13 = .ok (.invokevirtual 27, 3) := by decide +kernel
theorem d_Ta_takeKind_16 : decode b_Ta_takeKind 16 = .ok (.ifCond .eq 5, 3) := by decide +kernel
theorem d_Ta_takeKind_19 : decode b_Ta_takeKind 19 = .ok (.iload_n 1, 1) := by decide +kernel
theorem d_Ta_takeKind_20 : decode b_Ta_takeKind 20 = .ok (.ireturn, 1) := by decide +kernel
theorem d_Ta_takeKind_21 : decode b_Ta_takeKind 21 = .ok (.iinc 1 1, 3) := by decide +kernel
theorem d_Ta_takeKind_24 : decode b_Ta_takeKind 24 = .ok (.goto (-22), 3) := by decide +kernel
theorem d_Ta_takeKind_27 : decode b_Ta_takeKind 27 = .ok (.iconst (-1), 1) := by decide +kernel
theorem d_Ta_takeKind_28 : decode b_Ta_takeKind 28 = .ok (.ireturn, 1) := by decide +kernel
theorem d_Ta_kindWord_0 : decode b_Ta_kindWord 0 = .ok (.iload_n 0, 1) := by decide +kernel
theorem d_Ta_kindWord_1 : decode b_Ta_kindWord 1 = .ok (.tableswitch 57 1 6 #[39, 42, 45, 48, 51, 54], 39) := by decide +kernel
theorem d_Ta_kindWord_40 : decode b_Ta_kindWord 40 = .ok (.ldc 96, 2) := by decide +kernel
theorem d_Ta_kindWord_42 : decode b_Ta_kindWord 42 = .ok (.areturn, 1) := by decide +kernel
theorem d_Ta_kindWord_43 : decode b_Ta_kindWord 43 = .ok (.ldc 98, 2) := by decide +kernel
theorem d_Ta_kindWord_45 : decode b_Ta_kindWord 45 = .ok (.areturn, 1) := by decide +kernel
theorem d_Ta_kindWord_46 : decode b_Ta_kindWord 46 = .ok (.ldc 100, 2) := by decide +kernel
theorem d_Ta_kindWord_48 : decode b_Ta_kindWord 48 = .ok (.areturn, 1) := by decide +kernel
theorem d_Ta_kindWord_49 : decode b_Ta_kindWord 49 = .ok (.ldc 102, 2) := by decide +kernel
theorem d_Ta_kindWord_51 : decode b_Ta_kindWord 51 = .ok (.areturn, 1) := by decide +kernel
theorem d_Ta_kindWord_52 : decode b_Ta_kindWord 52 = .ok (.ldc 104, 2) := by decide +kernel
theorem d_Ta_kindWord_54 : decode b_Ta_kindWord 54 = .ok (.areturn, 1) := by decide +kernel
theorem d_Ta_kindWord_55 : decode b_Ta_kindWord 55 = .ok (.ldc 106, 2) := by decide +kernel
theorem d_Ta_kindWord_57 : decode b_Ta_kindWord 57 = .ok (.areturn, 1) := by decide +kernel
theorem d_Ta_kindWord_58 : decode b_Ta_kindWord 58 = .ok (.ldc 108, 2) := by decide +kernel
theorem d_Ta_kindWord_60 : decode b_Ta_kindWord 60 = .ok (.areturn, 1) := by decide +kernel
theorem d_Ta_takeOption_0 : decode b_Ta_takeOption 0 = .ok (.aload_n 0, 1) := by decide +kernel
theorem d_Ta_takeOption_1 : decode b_Ta_takeOption 1 = .ok (.aload_n 1, 1) := by decide +kernel
theorem d_Ta_takeOption_2 : decode b_Ta_takeOption 2 = .ok (.invokevirtual 27, 3) := by decide +kernel
theorem d_Ta_takeOption_5 : decode b_Ta_takeOption 5 = .ok (.ifCond .ne 5, 3) := by decide +kernel
theorem d_Ta_takeOption_8 : decode b_Ta_takeOption 8 = .ok (.iconst 1, 1) := by decide +kernel
theorem d_Ta_takeOption_9 : decode b_Ta_takeOption 9 = .ok (.ireturn, 1) := by decide +kernel
theorem d_Ta_takeOption_10 : decode b_Ta_takeOption 10 = .ok (.aload_n 0, 1) := by decide +kernel
theorem d_Ta_takeOption_11 : decode b_Ta_takeOption 11 = .ok (.getstatic 110, 3) := by decide +kernel
theorem d_Ta_takeOption_14 : decode b_Ta_takeOption 14 = .ok (.iload_n 3, 1) := by decide +kernel
theorem d_Ta_takeOption_15 : decode b_Ta_takeOption 15 = .ok (.iaload, 1) := by decide +kernel
theorem d_Ta_takeOption_16 : decode b_Ta_takeOption 16 = .ok (.invokevirtual 53, 3) := by decide +kernel
theorem d_Ta_takeOption_19 : decode b_Ta_takeOption 19 = .ok (.istore 4, 2) := by decide +kernel
theorem d_Ta_takeOption_21 : decode b_Ta_takeOption 21 = .ok (.iload 4, 2) := by decide +kernel
theorem d_Ta_takeOption_23 : decode b_Ta_takeOption 23 = .ok (.ifCond .ge 5, 3) := by decide +kernel
theorem d_Ta_takeOption_26 : decode b_Ta_takeOption 26 = .ok (.iconst 0, 1) := by decide +kernel
theorem d_Ta_takeOption_27 : decode b_Ta_takeOption 27 = .ok (.ireturn, 1) := by decide +kernel
theorem d_Ta_takeOption_28 : decode b_Ta_takeOption 28 = .ok (.aload_n 2, 1) := by decide +kernel
theorem d_Ta_takeOption_29 : decode b_Ta_takeOption 29 = .ok (.iload_n 3, 1) := by decide +kernel
theorem d_Ta_takeOption_30 : decode b_Ta_takeOption 30 = .ok (.iload 4, 2) := by decide +kernel
theorem d_Ta_takeOption_32 : decode b_Ta_takeOption 32 = .ok (.invokevirtual 113, 3) := by decide +kernel
theorem d_Ta_takeOption_35 : decode b_Ta_takeOption 35 = .ok (.iconst 1, 1) := by decide +kernel
theorem d_Ta_takeOption_36 : decode b_Ta_takeOption 36 = .ok (.ireturn, 1) := by decide +kernel
theorem d_Ta_takeWord_0 : decode b_Ta_takeWord 0 = .ok (.aload_n 0, 1) := by decide +kernel
theorem d_Ta_takeWord_1 : decode b_Ta_takeWord 1 = .ok (.getfield 50, 3) := by decide +kernel
theorem d_Ta_takeWord_4 : decode b_Ta_takeWord 4 = .ok (.iconst 1, 1) := by decide +kernel
theorem d_Ta_takeWord_5 : decode b_Ta_takeWord 5 = .ok (.if_icmp .ne 19, 3) := by decide +kernel
theorem d_Ta_takeWord_8 : decode b_Ta_takeWord 8 = .ok (.aload_n 0, 1) := by decide +kernel
theorem d_Ta_takeWord_9 : decode b_Ta_takeWord 9 = .ok (.getfield 19, 3) := by decide +kernel
theorem d_Ta_takeWord_12 : decode b_Ta_takeWord 12 = .ok (.aload_n 0, 1) := by decide +kernel
theorem d_Ta_takeWord_13 : decode b_Ta_takeWord 13 = .ok (.getfield 43, 3) := by decide +kernel
theorem d_Ta_takeWord_16 : decode b_Ta_takeWord 16 = .ok (.isub, 1) := by decide +kernel
theorem d_Ta_takeWord_17 : decode b_Ta_takeWord 17 = .ok (.aload_n 1, 1) := by decide +kernel
theorem d_Ta_takeWord_18 : decode b_Ta_takeWord 18 = .ok (.invokevirtual 119, 3) := by decide +kernel
theorem d_Ta_takeWord_21 : decode b_Ta_takeWord 21 = .ok (.if_icmp .eq 5, 3) := by decide +kernel
theorem d_Ta_takeWord_24 : decode b_Ta_takeWord 24 = .ok (.iconst 0, 1) := by decide +kernel
theorem d_Ta_takeWord_25 : decode b_Ta_takeWord 25 = .ok (.ireturn, 1) := by decide +kernel
theorem d_Ta_takeWord_26 : decode b_Ta_takeWord 26 = .ok (.iconst 0, 1) := by decide +kernel
theorem d_Ta_takeWord_27 : decode b_Ta_takeWord 27 = .ok (.istore_n 2, 1) := by decide +kernel
theorem d_Ta_takeWord_28 : decode b_Ta_takeWord 28 = .ok (.iload_n 2, 1) := by decide +kernel
theorem d_Ta_takeWord_29 : decode b_Ta_takeWord 29 = .ok (.aload_n 1, 1) := by decide +kernel
theorem d_Ta_takeWord_30 : decode b_Ta_takeWord 30 = .ok (.invokevirtual 119, 3) := by decide +kernel
theorem d_Ta_takeWord_33 : decode b_Ta_takeWord 33 = .ok (.if_icmp .ge 30, 3) := by decide +kernel
theorem d_Ta_takeWord_36 : decode b_Ta_takeWord 36 = .ok (.aload_n 0, 1) := by decide +kernel
theorem d_Ta_takeWord_37 : decode b_Ta_takeWord 37 = .ok (.getfield 15, 3) := by decide +kernel
theorem d_Ta_takeWord_40 : decode b_Ta_takeWord 40 = .ok (.aload_n 0, 1) := by decide +kernel
theorem d_Ta_takeWord_41 : decode b_Ta_takeWord 41 = .ok (.getfield 43, 3) := by decide +kernel
theorem d_Ta_takeWord_44 : decode b_Ta_takeWord 44 = .ok (.iload_n 2, 1) := by decide +kernel
theorem d_Ta_takeWord_45 : decode b_Ta_takeWord 45 = .ok (.iadd, 1) := by decide +kernel
theorem d_Ta_takeWord_46 : decode b_Ta_takeWord 46 = .ok (.baload, 1) := by decide +kernel
theorem d_Ta_takeWord_47 : decode b_Ta_takeWord 47 = .ok (.aload_n 1, 1) := by decide +kernel
theorem d_Ta_takeWord_48 : decode b_Ta_takeWord 48 = .ok (.iload_n 2, 1) := by decide +kernel
theorem d_Ta_takeWord_49 : decode b_Ta_takeWord 49 = .ok (.invokevirtual 123, 3) := by decide +kernel
theorem d_Ta_takeWord_52 : decode b_Ta_takeWord 52 = .ok (.if_icmp .eq 5, 3) := by decide +kernel
theorem d_Ta_takeWord_55 : decode b_Ta_takeWord 55 = .ok (.iconst 0, 1) := by decide +kernel
theorem d_Ta_takeWord_56 : decode b_Ta_takeWord 56 = .ok (.ireturn, 1) := by decide +kernel
theorem d_Ta_takeWord_57 : decode b_Ta_takeWord 57 = .ok (.iinc 2 1, 3) := by decide +kernel
theorem d_Ta_takeWord_60 : decode b_Ta_takeWord 60 = .ok (.goto (-32), 3) := by decide +kernel
theorem d_Ta_takeWord_63 : decode b_Ta_takeWord 63 = .ok (.aload_n 0, 1) := by decide +kernel
theorem d_Ta_takeWord_64 : decode b_Ta_takeWord 64 = .ok (.invokevirtual 22, 3) := by decide +kernel
theorem d_Ta_takeWord_67 : decode b_Ta_takeWord 67 = .ok (.iconst 1, 1) := by decide +kernel
theorem d_Ta_takeWord_68 : decode b_Ta_takeWord 68 = .ok (.ireturn, 1) := by decide +kernel
theorem d_Ta_takeNumber_0 : decode b_Ta_takeNumber 0 = .ok (.aload_n 0, 1) := by decide +kernel
theorem d_Ta_takeNumber_1 : decode b_Ta_takeNumber 1 = .ok (.getfield 50, 3) := by decide +kernel
theorem d_Ta_takeNumber_4 : decode b_Ta_takeNumber 4 = .ok (.iconst 2, 1) := by decide +kernel
theorem d_Ta_takeNumber_5 : decode b_Ta_takeNumber 5 = .ok (.if_icmp .ne 11, 3) := by decide +kernel
theorem d_Ta_takeNumber_8 : decode b_Ta_takeNumber 8 = .ok (.aload_n 0, 1) := by decide +kernel
theorem d_Ta_takeNumber_9 : decode b_Ta_takeNumber 9 = .ok (.getfield 127, 3) := by decide +kernel
theorem d_Ta_takeNumber_12 : decode b_Ta_takeNumber 12 = .ok (.iload_n 1, 1) := by decide +kernel
theorem d_Ta_takeNumber_13 : decode b_Ta_takeNumber 13 = .ok (.if_icmp .le 5, 3) := by decide +kernel
theorem d_Ta_takeNumber_16 : decode b_Ta_takeNumber 16 = .ok (.iconst (-1), 1) := by decide +kernel
theorem d_Ta_takeNumber_17 : decode b_Ta_takeNumber 17 = .ok (.ireturn, 1) := by decide +kernel
theorem d_Ta_takeNumber_18 : decode b_Ta_takeNumber 18 = .ok (.aload_n 0, 1) := by decide +kernel
theorem d_Ta_takeNumber_19 : decode b_Ta_takeNumber 19 = .ok (.getfield 127, 3) := by decide +kernel
theorem d_Ta_takeNumber_22 : decode b_Ta_takeNumber 22 = .ok (.istore_n 2, 1) := by decide +kernel
theorem d_Ta_takeNumber_23 : decode b_Ta_takeNumber 23 = .ok (.aload_n 0, 1) := by decide +kernel
theorem d_Ta_takeNumber_24 : decode b_Ta_takeNumber 24 = .ok (.invokevirtual 22, 3) := by decide +kernel
theorem d_Ta_takeNumber_27 : decode b_Ta_takeNumber 27 = .ok (.iload_n 2, 1) := by decide +kernel
theorem d_Ta_takeNumber_28 : decode b_Ta_takeNumber 28 = .ok (.ireturn, 1) := by decide +kernel
theorem d_Ta_takeSemicolon_0 : decode b_Ta_takeSemicolon 0 = .ok (.aload_n 0, 1) := by decide +kernel
theorem d_Ta_takeSemicolon_1 : decode b_Ta_takeSemicolon 1 = .ok (.getfield 50, 3) := by decide +kernel
theorem d_Ta_takeSemicolon_4 : decode b_Ta_takeSemicolon 4 = .ok (.iconst 3, 1) := by decide +kernel
theorem d_Ta_takeSemicolon_5 : decode b_Ta_takeSemicolon 5 = .ok (.if_icmp .eq 5, 3) := by decide +kernel
theorem d_Ta_takeSemicolon_8 : decode b_Ta_takeSemicolon 8 = .ok (.iconst 0, 1) := by decide +kernel
theorem d_Ta_takeSemicolon_9 : decode b_Ta_takeSemicolon 9 = .ok (.ireturn, 1) := by decide +kernel
theorem d_Ta_takeSemicolon_10 : decode b_Ta_takeSemicolon 10 = .ok (.aload_n 0, 1) := by decide +kernel
theorem d_Ta_takeSemicolon_11 : decode b_Ta_takeSemicolon 11 = .ok (.invokevirtual 22, 3) := by decide +kernel
theorem d_Ta_takeSemicolon_14 : decode b_Ta_takeSemicolon 14 = .ok (.iconst 1, 1) := by decide +kernel
theorem d_Ta_takeSemicolon_15 : decode b_Ta_takeSemicolon 15 = .ok (.ireturn, 1) := by decide +kernel
theorem d_Ta_advance_0 : decode b_Ta_advance 0 = .ok (.aload_n 0, 1) := by decide +kernel
theorem d_Ta_advance_1 : decode b_Ta_advance 1 = .ok (.aload_n 0, 1) := by decide +kernel
theorem d_Ta_advance_2 : decode b_Ta_advance 2 = .ok (.getfield 19, 3) := by decide +kernel
theorem d_Ta_advance_5 : decode b_Ta_advance 5 = .ok (.putfield 43, 3) := by decide +kernel
theorem d_Ta_advance_8 : decode b_Ta_advance 8 = .ok (.aload_n 0, 1) := by decide +kernel
theorem d_Ta_advance_9 : decode b_Ta_advance 9 = .ok (.getfield 43, 3) := by decide +kernel
theorem d_Ta_advance_12 : decode b_Ta_advance 12 = .ok (.aload_n 0, 1) := by decide +kernel
theorem d_Ta_advance_13 : decode b_Ta_advance 13 = .ok (.getfield 9, 3) := by decide +kernel
theorem d_Ta_advance_16 : decode b_Ta_advance 16 = .ok (.if_icmp .ge 30, 3) := by decide +kernel
theorem d_Ta_advance_19 : decode b_Ta_advance 19 = .ok (.aload_n 0, 1) := by decide +kernel
theorem d_Ta_advance_20 : decode b_Ta_advance 20 = .ok (.getfield 15, 3) := by decide +kernel
theorem d_Ta_advance_23 : decode b_Ta_advance 23 = .ok (.aload_n 0, 1) := by decide +kernel
theorem d_Ta_advance_24 : decode b_Ta_advance 24 = .ok (.getfield 43, 3) := by decide +kernel
theorem d_Ta_advance_27 : decode b_Ta_advance 27 = .ok (.baload, 1) := by decide +kernel
theorem d_Ta_advance_28 : decode b_Ta_advance 28 = .ok (.bipush 32, 2) := by decide +kernel
theorem d_Ta_advance_30 : decode b_Ta_advance 30 = .ok (.if_icmp .ne 16, 3) := by decide +kernel
theorem d_Ta_advance_33 : decode b_Ta_advance 33 = .ok (.aload_n 0, 1) := by decide +kernel
theorem d_Ta_advance_34 : decode b_Ta_advance 34 = .ok (.dup, 1) := by decide +kernel
theorem d_Ta_advance_35 : decode b_Ta_advance 35 = .ok (.getfield 43, 3) := by decide +kernel
theorem d_Ta_advance_38 : decode b_Ta_advance 38 = .ok (.iconst 1, 1) := by decide +kernel
theorem d_Ta_advance_39 : decode b_Ta_advance 39 = .ok (.iadd, 1) := by decide +kernel
theorem d_Ta_advance_40 : decode b_Ta_advance 40 = .ok (.putfield 43, 3) := by decide +kernel
theorem d_Ta_advance_43 : decode b_Ta_advance 43 = .ok (.goto (-35), 3) := by decide +kernel
theorem d_Ta_advance_46 : decode b_Ta_advance 46 = .ok (.aload_n 0, 1) := by decide +kernel
theorem d_Ta_advance_47 : decode b_Ta_advance 47 = .ok (.aload_n 0, 1) := by decide +kernel
theorem d_Ta_advance_48 : decode b_Ta_advance 48 = .ok (.getfield 43, 3) := by decide +kernel
theorem d_Ta_advance_51 : decode b_Ta_advance 51 = .ok (.putfield 19, 3) := by decide +kernel
theorem d_Ta_advance_54 : decode b_Ta_advance 54 = .ok (.aload_n 0, 1) := by decide +kernel
theorem d_Ta_advance_55 : decode b_Ta_advance 55 = .ok (.aload_n 0, 1) := by decide +kernel
theorem d_Ta_advance_56 : decode b_Ta_advance 56 = .ok (.getfield 43, 3) := by decide +kernel
theorem d_Ta_advance_59 : decode b_Ta_advance 59 = .ok (.aload_n 0, 1) := by decide +kernel
theorem d_Ta_advance_60 : decode b_Ta_advance 60 = .ok (.getfield 9, 3) := by decide +kernel
theorem d_Ta_advance_63 : decode b_Ta_advance 63 = .ok (.if_icmp .ge 18, 3) := by decide +kernel
theorem d_Ta_advance_66 : decode b_Ta_advance 66 = .ok (.aload_n 0, 1) := by decide +kernel
theorem d_Ta_advance_67 : decode b_Ta_advance 67 = .ok (.getfield 15, 3) := by decide +kernel
theorem d_Ta_advance_70 : decode b_Ta_advance 70 = .ok (.aload_n 0, 1) := by decide +kernel
theorem d_Ta_advance_71 : decode b_Ta_advance 71 = .ok (.getfield 43, 3) := by decide +kernel
theorem d_Ta_advance_74 : decode b_Ta_advance 74 = .ok (.baload, 1) := by decide +kernel
theorem d_Ta_advance_75 : decode b_Ta_advance 75 = .ok (.invokestatic 130, 3) := by decide +kernel
theorem d_Ta_advance_78 : decode b_Ta_advance 78 = .ok (.goto 4, 3) := by decide +kernel
theorem d_Ta_advance_81 : decode b_Ta_advance 81 = .ok (.iconst 0, 1) := by decide +kernel
theorem d_Ta_advance_82 : decode b_Ta_advance 82 = .ok (.putfield 50, 3) := by decide +kernel
theorem d_Ta_advance_85 : decode b_Ta_advance 85 = .ok (.aload_n 0, 1) := by decide +kernel
theorem d_Ta_advance_86 : decode b_Ta_advance 86 = .ok (.iconst 0, 1) := by decide +kernel
theorem d_Ta_advance_87 : decode b_Ta_advance 87 = .ok (.putfield 127, 3) := by decide +kernel
theorem d_Ta_advance_90 : decode b_Ta_advance 90 = .ok (.iconst 1, 1) := by decide +kernel
theorem d_Ta_advance_91 : decode b_Ta_advance 91 = .ok (.istore_n 1, 1) := by decide +kernel
theorem d_Ta_advance_92 : decode b_Ta_advance 92 = .ok (.iload_n 1, 1) := by decide +kernel
theorem d_Ta_advance_93 : decode b_Ta_advance 93 = .ok (.ifCond .eq 106, 3) := by decide +kernel
theorem d_Ta_advance_96 : decode b_Ta_advance 96 = .ok (.aload_n 0, 1) := by decide +kernel
theorem d_Ta_advance_97 : decode b_Ta_advance 97 = .ok (.getfield 19, 3) := by decide +kernel
theorem d_Ta_advance_100 : decode b_Ta_advance 100 = .ok (.aload_n 0, 1) := by decide +kernel
theorem d_Ta_advance_101 : decode b_Ta_advance 101 = .ok (.getfield 9, 3) := by decide +kernel
theorem d_Ta_advance_104 : decode b_Ta_advance 104 = .ok (.if_icmp .ge 95, 3) := by decide +kernel
theorem d_Ta_advance_107 : decode b_Ta_advance 107 = .ok (.aload_n 0, 1) := by decide +kernel
theorem d_Ta_advance_108 : decode b_Ta_advance 108 = .ok (.getfield 15, 3) := by decide +kernel
theorem d_Ta_advance_111 : decode b_Ta_advance 111 = .ok (.aload_n 0, 1) := by decide +kernel
theorem d_Ta_advance_112 : decode b_Ta_advance 112 = .ok (.getfield 19, 3) := by decide +kernel
theorem d_Ta_advance_115 : decode b_Ta_advance 115 = .ok (.baload, 1) := by decide +kernel
theorem d_Ta_advance_116 : decode b_Ta_advance 116 = .ok (.invokestatic 130, 3) := by decide +kernel
theorem d_Ta_advance_119 : decode b_Ta_advance 119 = .ok (.aload_n 0, 1) := by decide +kernel
theorem d_Ta_advance_120 : decode b_Ta_advance 120 = .ok (.getfield 50, 3) := by decide +kernel
theorem d_Ta_advance_123 : decode b_Ta_advance 123 = .ok (.if_icmp .ne 76, 3) := by decide +kernel
theorem d_Ta_advance_126 : decode b_Ta_advance 126 = .ok (.aload_n 0, 1) := by decide +kernel
theorem d_Ta_advance_127 : decode b_Ta_advance 127 = .ok (.getfield 50, 3) := by decide +kernel
theorem d_Ta_advance_130 : decode b_Ta_advance 130 = .ok (.iconst 2, 1) := by decide +kernel
theorem d_Ta_advance_131 : decode b_Ta_advance 131 = .ok (.if_icmp .ne 33, 3) := by decide +kernel
theorem d_Ta_advance_134 : decode b_Ta_advance 134 = .ok (.aload_n 0, 1) := by decide +kernel
theorem d_Ta_advance_135 : decode b_Ta_advance 135 = .ok (.sipush 10000, 3) := by decide +kernel
theorem d_Ta_advance_138 : decode b_Ta_advance 138 = .ok (.aload_n 0, 1) := by decide +kernel
theorem d_Ta_advance_139 : decode b_Ta_advance 139 = .ok (.getfield 127, 3) := by decide +kernel
theorem d_Ta_advance_142 : decode b_Ta_advance 142 = .ok (.bipush 10, 2) := by decide +kernel
theorem d_Ta_advance_144 : decode b_Ta_advance 144 = .ok (.imul, 1) := by decide +kernel
theorem d_Ta_advance_145 : decode b_Ta_advance 145 = .ok (.aload_n 0, 1) := by decide +kernel
theorem d_Ta_advance_146 : decode b_Ta_advance 146 = .ok (.getfield 15, 3) := by decide +kernel
theorem d_Ta_advance_149 : decode b_Ta_advance 149 = .ok (.aload_n 0, 1) := by decide +kernel
theorem d_Ta_advance_150 : decode b_Ta_advance 150 = .ok (.getfield 19, 3) := by decide +kernel
theorem d_Ta_advance_153 : decode b_Ta_advance 153 = .ok (.baload, 1) := by decide +kernel
theorem d_Ta_advance_154 : decode b_Ta_advance 154 = .ok (.iadd, 1) := by decide +kernel
theorem d_Ta_advance_155 : decode b_Ta_advance 155 = .ok (.bipush 48, 2) := by decide +kernel
theorem d_Ta_advance_157 : decode b_Ta_advance 157 = .ok (.isub, 1) := by decide +kernel
theorem d_Ta_advance_158 : decode b_Ta_advance 158 = .ok (.invokestatic 134, 3) := by decide +kernel
theorem d_Ta_advance_161 : decode b_Ta_advance 161 = .ok (.putfield 127, 3) := by decide +kernel
theorem d_Ta_advance_164 : decode b_Ta_advance 164 = .ok (.aload_n 0, 1) := by decide +kernel
theorem d_Ta_advance_165 : decode b_Ta_advance 165 = .ok (.dup, 1) := by decide +kernel
theorem d_Ta_advance_166 : decode b_Ta_advance 166 = .ok (.getfield 19, 3) := by decide +kernel
theorem d_Ta_advance_169 : decode b_Ta_advance 169 = .ok (.iconst 1, 1) := by decide +kernel
theorem d_Ta_advance_170 : decode b_Ta_advance 170 = .ok (.iadd, 1) := by decide +kernel
theorem d_Ta_advance_171 : decode b_Ta_advance 171 = .ok (.putfield 19, 3) := by decide +kernel
theorem d_Ta_advance_174 : decode b_Ta_advance 174 = .ok (.aload_n 0, 1) := by decide +kernel
theorem d_Ta_advance_175 : decode b_Ta_advance 175 = .ok (.getfield 50, 3) := by decide +kernel
theorem d_Ta_advance_178 : decode b_Ta_advance 178 = .ok (.iconst 1, 1) := by decide +kernel
theorem d_Ta_advance_179 : decode b_Ta_advance 179 = .ok (.if_icmp .eq 11, 3) := by decide +kernel
theorem d_Ta_advance_182 : decode b_Ta_advance 182 = .ok (.aload_n 0, 1) := by decide +kernel
theorem d_Ta_advance_183 : decode b_Ta_advance 183 = .ok (.getfield 50, 3) := by decide +kernel
theorem d_Ta_advance_186 : decode b_Ta_advance 186 = .ok (.iconst 2, 1) := by decide +kernel
theorem d_Ta_advance_187 : decode b_Ta_advance 187 = .ok (.if_icmp .ne 7, 3) := by decide +kernel
theorem d_Ta_advance_190 : decode b_Ta_advance 190 = .ok (.iconst 1, 1) := by decide +kernel
theorem d_Ta_advance_191 : decode b_Ta_advance 191 = .ok (.goto 4, 3) := by decide +kernel
theorem d_Ta_advance_194 : decode b_Ta_advance 194 = .ok (.iconst 0, 1) := by decide +kernel
theorem d_Ta_advance_195 : decode b_Ta_advance 195 = .ok (.istore_n 1, 1) := by decide +kernel
theorem d_Ta_advance_196 : decode b_Ta_advance 196 = .ok (.goto (-104), 3) := by decide +kernel
theorem d_Ta_advance_199 : decode b_Ta_advance 199 = .ok (.return_, 1) := by decide +kernel
theorem d_Ta_tokenOf_0 : decode b_Ta_tokenOf 0 = .ok (.iload_n 0, 1) := by decide +kernel
theorem d_Ta_tokenOf_1 : decode b_Ta_tokenOf 1 = .ok (.bipush 97, 2) := by decide +kernel
theorem d_Ta_tokenOf_3 : decode b_Ta_tokenOf 3 = .ok (.if_icmp .lt 11, 3) := by decide +kernel
theorem d_Ta_tokenOf_6 : decode b_Ta_tokenOf 6 = .ok (.iload_n 0, 1) := by decide +kernel
theorem d_Ta_tokenOf_7 : decode b_Ta_tokenOf 7 = .ok (.bipush 122, 2) := by decide +kernel
theorem d_Ta_tokenOf_9 : decode b_Ta_tokenOf 9 = .ok (.if_icmp .gt 5, 3) := by decide +kernel
theorem d_Ta_tokenOf_12 : decode b_Ta_tokenOf 12 = .ok (.iconst 1, 1) := by decide +kernel
theorem d_Ta_tokenOf_13 : decode b_Ta_tokenOf 13 = .ok (.ireturn, 1) := by decide +kernel
theorem d_Ta_tokenOf_14 : decode b_Ta_tokenOf 14 = .ok (.iload_n 0, 1) := by decide +kernel
theorem d_Ta_tokenOf_15 : decode b_Ta_tokenOf 15 = .ok (.bipush 48, 2) := by decide +kernel
theorem d_Ta_tokenOf_17 : decode b_Ta_tokenOf 17 = .ok (.if_icmp .lt 11, 3) := by decide +kernel
theorem d_Ta_tokenOf_20 : decode b_Ta_tokenOf 20 = .ok (.iload_n 0, 1) := by decide +kernel
theorem d_Ta_tokenOf_21 : decode b_Ta_tokenOf 21 = .ok (.bipush 57, 2) := by decide +kernel
theorem d_Ta_tokenOf_23 : decode b_Ta_tokenOf 23 = .ok (.if_icmp .gt 5, 3) := by decide +kernel
theorem d_Ta_tokenOf_26 : decode b_Ta_tokenOf 26 = .ok (.iconst 2, 1) := by decide +kernel
theorem d_Ta_tokenOf_27 : decode b_Ta_tokenOf 27 = .ok (.ireturn, 1) := by decide +kernel
theorem d_Ta_tokenOf_28 : decode b_Ta_tokenOf 28 = .ok (.iload_n 0, 1) := by decide +kernel
theorem d_Ta_tokenOf_29 : decode b_Ta_tokenOf 29 = .ok (.bipush 59, 2) := by decide +kernel
theorem d_Ta_tokenOf_31 : decode b_Ta_tokenOf 31 = .ok (.if_icmp .ne 7, 3) := by decide +kernel
theorem d_Ta_tokenOf_34 : decode b_Ta_tokenOf 34 = .ok (.iconst 3, 1) := by decide +kernel
theorem d_Ta_tokenOf_35 : decode b_Ta_tokenOf 35 = .ok (.goto 4, 3) := by decide +kernel
theorem d_Ta_tokenOf_38 : decode b_Ta_tokenOf 38 = .ok (.iconst 4, 1) := by decide +kernel
theorem d_Ta_tokenOf_39 : decode b_Ta_tokenOf 39 = .ok (.ireturn, 1) := by decide +kernel
