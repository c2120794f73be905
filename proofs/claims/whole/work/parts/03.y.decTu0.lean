theorem d_Tu_init_0 : decode b_Tu_init 0 = .ok (.aload_n 0, 1) := by decide +kernel
theorem d_Tu_init_1 : decode b_Tu_init 1 = .ok (.invokespecial 3, 3) := by decide +kernel
theorem d_Tu_init_4 : decode b_Tu_init 4 = .ok (.aload_n 0, 1) := by decide +kernel
theorem d_Tu_init_5 : decode b_Tu_init 5 = .ok (.iconst 0, 1) := by decide +kernel
theorem d_Tu_init_6 : decode b_Tu_init 6 = .ok (.putfield 9, 3) := by decide +kernel
theorem d_Tu_init_9 : decode b_Tu_init 9 = .ok (.aload_n 0, 1) := by decide +kernel
theorem d_Tu_init_10 : decode b_Tu_init 10 = .ok (.bipush 50, 2) := by decide +kernel
theorem d_Tu_init_12 : decode b_Tu_init 12 = .ok (.putfield 15, 3) := by decide +kernel
theorem d_Tu_init_15 : decode b_Tu_init 15 = .ok (.aload_n 0, 1) := by decide +kernel
theorem d_Tu_init_16 : decode b_Tu_init 16 = .ok (.iconst 1, 1) := by decide +kernel
theorem d_Tu_init_17 : decode b_Tu_init 17 = .ok (.putfield 18, 3) := by decide +kernel
theorem d_Tu_init_20 : decode b_Tu_init 20 = .ok (.aload_n 0, 1) := by decide +kernel
theorem d_Tu_init_21 : decode b_Tu_init 21 = .ok (.iconst 0, 1) := by decide +kernel
theorem d_Tu_init_22 : decode b_Tu_init 22 = .ok (.putfield 21, 3) := by decide +kernel
theorem d_Tu_init_25 : decode b_Tu_init 25 = .ok (.aload_n 0, 1) := by decide +kernel
theorem d_Tu_init_26 : decode b_Tu_init 26 = .ok (.bipush 6, 2) := by decide +kernel
theorem d_Tu_init_28 : decode b_Tu_init 28 = .ok (.newarray .int, 2) := by decide +kernel
theorem d_Tu_init_30 : decode b_Tu_init 30 = .ok (.dup, 1) := by decide +kernel
theorem d_Tu_init_31 : decode b_Tu_init 31 = .ok (.iconst 0, 1) := by decide +kernel
theorem d_Tu_init_32 : decode b_Tu_init 32 = .ok (.bipush 7, 2) := by decide +kernel
theorem d_Tu_init_34 : decode b_Tu_init 34 = .ok (.iastore, 1) := by decide +kernel
theorem d_Tu_init_35 : decode b_Tu_init 35 = .ok (.dup, 1) := by decide +kernel
theorem d_Tu_init_36 : decode b_Tu_init 36 = .ok (.iconst 1, 1) := by decide +kernel
theorem d_Tu_init_37 : decode b_Tu_init 37 = .ok (.bipush 7, 2) := by decide +kernel
theorem d_Tu_init_39 : decode b_Tu_init 39 = .ok (.iastore, 1) := by decide +kernel
theorem d_Tu_init_40 : decode b_Tu_init 40 = .ok (.dup, 1) := by decide +kernel
theorem d_Tu_init_41 : decode b_Tu_init 41 = .ok (.iconst 2, 1) := by decide +kernel
theorem d_Tu_init_42 : decode b_Tu_init 42 = .ok (.bipush 7, 2) := by decide +kernel
theorem d_Tu_init_44 : decode b_Tu_init 44 = .ok (.iastore, 1) := by decide +kernel
theorem d_Tu_init_45 : decode b_Tu_init 45 = .ok (.dup, 1) := by decide +kernel
theorem d_Tu_init_46 : decode b_Tu_init 46 = .ok (.iconst 3, 1) := by decide +kernel
theorem d_Tu_init_47 : decode b_Tu_init 47 = .ok (.bipush 7, 2) := by decide +kernel
theorem d_Tu_init_49 : decode b_Tu_init 49 = .ok (.iastore, 1) := by decide +kernel
theorem d_Tu_init_50 : decode b_Tu_init 50 = .ok (.dup, 1) := by decide +kernel
theorem d_Tu_init_51 : decode b_Tu_init 51 = .ok (.iconst 4, 1) := by decide +kernel
theorem d_Tu_init_52 : decode b_Tu_init 52 = .ok (.bipush 7, 2) := by decide +kernel
theorem d_Tu_init_54 : decode b_Tu_init 54 = .ok (.iastore, 1) := by decide +kernel
theorem d_Tu_init_55 : decode b_Tu_init 55 = .ok (.dup, 1) := by decide +kernel
theorem d_Tu_init_56 : decode b_Tu_init 56 = .ok (.iconst 5, 1) := by decide +kernel
theorem d_Tu_init_57 : decode b_Tu_init 57 = .ok (.bipush 7, 2) := by decide +kernel
theorem d_Tu_init_59 : decode b_Tu_init 59 = .ok (.iastore, 1) := by decide +kernel
theorem d_Tu_init_60 : decode b_Tu_init 60 = .ok (.putfield 24, 3) := by decide +kernel
theorem d_Tu_init_63 : decode b_Tu_init 63 = .ok (.aload_n 0, 1) := by decide +kernel
theorem d_Tu_init_64 : decode b_Tu_init 64 = .ok (.bipush 8, 2) := by decide +kernel
theorem d_Tu_init_66 : decode b_Tu_init 66 = .ok (.anewarray 28, 3) := by decide +kernel
theorem d_Tu_init_69 : decode b_Tu_init 69 = .ok (.putfield 30, 3) := by decide +kernel
theorem d_Tu_init_72 : decode b_Tu_init 72 = .ok (.aload_n 0, 1) := by decide +kernel
theorem d_Tu_init_73 : decode b_Tu_init 73 = .ok (.bipush 10, 2) := by decide +kernel
theorem d_Tu_init_75 : decode b_Tu_init 75 = .ok (.newarray .int, 2) := by decide +kernel
theorem d_Tu_init_77 : decode b_Tu_init 77 = .ok (.dup, 1) := by decide +kernel
theorem d_Tu_init_78 : decode b_Tu_init 78 = .ok (.iconst 0, 1) := by decide +kernel
theorem d_Tu_init_79 : decode b_Tu_init 79 = .ok (.iconst (-1), 1) := by decide +kernel
theorem d_Tu_init_80 : decode b_Tu_init 80 = .ok (.iastore, 1) := by decide +kernel
theorem d_Tu_init_81 : decode b_Tu_init 81 = .ok (.dup, 1) := by decide +kernel
theorem d_Tu_init_82 : decode b_Tu_init 82 = .ok (.iconst 1, 1) := by decide +kernel
theorem d_Tu_init_83 : decode b_Tu_init 83 = .ok (.iconst (-1), 1) := by decide +kernel
theorem d_Tu_init_84 : decode b_Tu_init 84 = .ok (.iastore, 1) := by decide +kernel
theorem d_Tu_init_85 : decode b_Tu_init 85 = .ok (.dup, 1) := by decide +kernel
theorem d_Tu_init_86 : decode b_Tu_init 86 = .ok (.iconst 2, 1) := by decide +kernel
theorem d_Tu_init_87 : decode b_Tu_init 87 = .ok (.iconst (-1), 1) := by decide +kernel
theorem d_Tu_init_88 : decode b_Tu_init 88 = .ok (.iastore, 1) := by decide +kernel
theorem d_Tu_init_89 : decode b_Tu_init 89 = .ok (.dup, 1) := by decide +kernel
theorem d_Tu_init_90 : decode b_Tu_init 90 = .ok (.iconst 3, 1) := by decide +kernel
theorem d_Tu_init_91 : decode b_Tu_init 91 = .ok (.iconst (-1), 1) := by decide +kernel
theorem d_Tu_init_92 : decode b_Tu_init 92 = .ok (.iastore, 1) := by decide +kernel
theorem d_Tu_init_93 : decode b_Tu_init 93 = .ok (.dup, 1) := by decide +kernel
theorem d_Tu_init_94 : decode b_Tu_init 94 = .ok (.iconst 4, 1) := by decide +kernel
theorem d_Tu_init_95 : decode b_Tu_init 95 = .ok (.iconst (-1), 1) := by decide +kernel
theorem d_Tu_init_96 : decode b_Tu_init 96 = .ok (.iastore, 1) := by decide +kernel
theorem d_Tu_init_97 : decode b_Tu_init 97 = .ok (.dup, 1) := by decide +kernel
theorem d_Tu_init_98 : decode b_Tu_init 98 = .ok (.iconst 5, 1) := by decide +kernel
theorem d_Tu_init_99 : decode b_Tu_init 99 = .ok (.iconst (-1), 1) := by decide +kernel
theorem d_Tu_init_100 : decode b_Tu_init 100 = .ok (.iastore, 1) := by decide +kernel
theorem d_Tu_init_101 : decode b_Tu_init 101 = .ok (.dup, 1) := by decide +kernel
theorem d_Tu_init_102 : decode b_Tu_init 102 = .ok (.bipush 6, 2) := by decide +kernel
theorem d_Tu_init_104 : decode b_Tu_init 104 = .ok (.iconst (-1), 1) := by decide +kernel
theorem d_Tu_init_105 : decode b_Tu_init 105 = .ok (.iastore, 1) := by decide +kernel
theorem d_Tu_init_106 : decode b_Tu_init 106 = .ok (.dup, 1) := by decide +kernel
theorem d_Tu_init_107 : decode b_Tu_init 107 = .ok (.bipush 7, 2) := by decide +kernel
theorem d_Tu_init_109 : decode b_Tu_init 109 = .ok (.iconst (-1), 1) := by decide +kernel
theorem d_Tu_init_110 : decode b_Tu_init 110 = .ok (.iastore, 1) := by decide +kernel
theorem d_Tu_init_111 : decode b_Tu_init 111 = .ok (.dup, 1) := by decide +kernel
theorem d_Tu_init_112 : decode b_Tu_init 112 = .ok (.bipush 8, 2) := by decide +kernel
theorem d_Tu_init_114 : decode b_Tu_init 114 = .ok (.iconst (-1), 1) := by decide +kernel
theorem d_Tu_init_115 : decode b_Tu_init 115 = .ok (.iastore, 1) := by decide +kernel
theorem d_Tu_init_116 : decode b_Tu_init 116 = .ok (.dup, 1) := by decide +kernel
theorem d_Tu_init_117 : decode b_Tu_init 117 = .ok (.bipush 9, 2) := by decide +kernel
theorem d_Tu_init_119 : decode b_Tu_init 119 = .ok (.iconst (-1), 1) := by decide +kernel
theorem d_Tu_init_120 : decode b_Tu_init 120 = .ok (.iastore, 1) := by decide +kernel
theorem d_Tu_init_121 : decode b_Tu_init 121 = .ok (.putfield 34, 3) := by decide +kernel
theorem d_Tu_init_124 : decode b_Tu_init 124 = .ok (.iconst 0, 1) := by decide +kernel
theorem d_Tu_init_125 : decode b_Tu_init 125 = .ok (.istore_n 1, 1) := by decide +kernel
theorem d_Tu_init_126 : decode b_Tu_init 126 = .ok (.iload_n 1, 1) := by decide +kernel
theorem d_Tu_init_127 : decode b_Tu_init 127 = .ok (.bipush 8, 2) := by decide +kernel
theorem d_Tu_init_129 : decode b_Tu_init 129 = .ok (.if_icmp .ge 22, 3) := by decide +kernel
theorem d_Tu_init_132 : decode b_Tu_init 132 = .ok (.aload_n 0, 1) := by decide +kernel
theorem d_Tu_init_133 : decode b_Tu_init 133 = .ok (.getfield 30, 3) := by decide +kernel
theorem d_Tu_init_136 : decode b_Tu_init 136 = .ok (.iload_n 1, 1) := by decide +kernel
theorem d_Tu_init_137 : decode b_Tu_init 137 = .ok (.new 28, 3) := by decide +kernel
theorem d_Tu_init_140 : decode b_Tu_init 140 = .ok (.dup, 1) := by decide +kernel
theorem d_Tu_init_141 : decode b_Tu_init 141 = .ok (.invokespecial 37, 3) := by decide +kernel
theorem d_Tu_init_144 : decode b_Tu_init 144 = .ok (.aastore, 1) := by decide +kernel
theorem d_Tu_init_145 : decode b_Tu_init 145 = .ok (.iinc 1 1, 3) := by decide +kernel
theorem d_Tu_init_148 : decode b_Tu_init 148 = .ok (.goto (-22), 3) := by decide +kernel
theorem d_Tu_init_151 : decode b_Tu_init 151 = .ok (.return_, 1) := by decide +kernel
theorem d_Tu_become_0 : decode b_Tu_become 0 = .ok (.aload_n 0, 1) := by decide +kernel
theorem d_Tu_become_1 : decode b_Tu_become 1 = .ok (.aload_n 1, 1) := by decide +kernel
theorem d_Tu_become_2 : decode b_Tu_become 2 = .ok (.getfield 9, 3) := by decide +kernel
theorem d_Tu_become_5 : decode b_Tu_become 5 = .ok (.putfield 9, 3) := by decide +kernel
theorem d_Tu_become_8 : decode b_Tu_become 8 = .ok (.aload_n 0, 1) := by decide +kernel
theorem d_Tu_become_9 : decode b_Tu_become 9 = .ok (.aload_n 1, 1) := by decide +kernel
theorem d_Tu_become_10 : decode b_Tu_become 10 = .ok (.getfield 15, 3) := by decide +kernel
theorem d_Tu_become_13 : decode b_Tu_become 13 = .ok (.putfield 15, 3) := by decide +kernel
theorem d_Tu_become_16 : decode b_Tu_become 16 = .ok (.aload_n 0, 1) := by decide +kernel
theorem d_Tu_become_17 : decode b_Tu_become 17 = .ok (.aload_n 1, 1) := by decide +kernel
theorem d_Tu_become_18 : decode b_Tu_become 18 = .ok (.getfield 18, 3) := by decide +kernel
theorem d_Tu_become_21 : decode b_Tu_become 21 = .ok (.putfield 18, 3) := by decide +kernel
theorem d_Tu_become_24 : decode b_Tu_become 24 = .ok (.aload_n 0, 1) := by decide +kernel
theorem d_Tu_become_25 : decode b_Tu_become 25 = .ok (.aload_n 1, 1) := by decide +kernel
theorem d_Tu_become_26 : decode b_Tu_become 26 = .ok (.getfield 21, 3) := by decide +kernel
theorem d_Tu_become_29 : decode b_Tu_become 29 = .ok (.putfield 21, 3) := by decide +kernel
theorem d_Tu_become_32 : decode b_Tu_become 32 = .ok (.aload_n 1, 1) := by decide +kernel
theorem d_Tu_become_33 : decode b_Tu_become 33 = .ok (.getfield 24, 3) := by decide +kernel
theorem d_Tu_become_36 : decode b_Tu_become 36 = .ok (.iconst 0, 1) := by decide +kernel
theorem d_Tu_become_37 : decode b_Tu_become 37 = .ok (.aload_n 0, 1) := by decide +kernel
theorem d_Tu_become_38 : decode b_Tu_become 38 = .ok (.getfield 24, 3) := by decide +kernel
theorem d_Tu_become_41 : decode b_Tu_become 41 = .ok (.iconst 0, 1) := by decide +kernel
theorem d_Tu_become_42 : decode b_Tu_become 42 = .ok (.bipush 6, 2) := by decide +kernel
theorem d_Tu_become_44 : decode b_Tu_become 44 = .ok (.invokestatic 38, 3) := by decide +kernel
theorem d_Tu_become_47 : decode b_Tu_become 47 = .ok (.aload_n 1, 1) := by decide +kernel
theorem d_Tu_become_48 : decode b_Tu_become 48 = .ok (.getfield 34, 3) := by decide +kernel
theorem d_Tu_become_51 : decode b_Tu_become 51 = .ok (.iconst 0, 1) := by decide +kernel
theorem d_Tu_become_52 : decode b_Tu_become 52 = .ok (.aload_n 0, 1) := by decide +kernel
theorem d_Tu_become_53 : decode b_Tu_become 53 = .ok (.getfield 34, 3) := by decide +kernel
theorem d_Tu_become_56 : decode b_Tu_become 56 = .ok (.iconst 0, 1) := by decide +kernel
theorem d_Tu_become_57 : decode b_Tu_become 57 = .ok (.bipush 10, 2) := by decide +kernel
theorem d_Tu_become_59 : decode b_Tu_become 59 = .ok (.invokestatic 38, 3) := by decide +kernel
theorem d_Tu_become_62 : decode b_Tu_become 62 = .ok (.iconst 0, 1) := by decide +kernel
theorem d_Tu_become_63 : decode b_Tu_become 63 = .ok (.istore_n 2, 1) := by decide +kernel
theorem d_Tu_become_64 : decode b_Tu_become 64 = .ok (.iload_n 2, 1) := by decide +kernel
theorem d_Tu_become_65 : decode b_Tu_become 65 = .ok (.aload_n 0, 1) := by decide +kernel
theorem d_Tu_become_66 : decode b_Tu_become 66 = .ok (.getfield 21, 3) := by decide +kernel
theorem d_Tu_become_69 : decode b_Tu_become 69 = .ok (.if_icmp .ge 24, 3) := by decide +kernel
theorem d_Tu_become_72 : decode b_Tu_become 72 = .ok (.aload_n 0, 1) := by decide +kernel
theorem d_Tu_become_73 : decode b_Tu_become 73 = .ok (.getfield 30, 3) := by decide +kernel
theorem d_Tu_become_76 : decode b_Tu_become 76 = .ok (.iload_n 2, 1) := by decide +kernel
theorem d_Tu_become_77 : decode b_Tu_become 77 = .ok (.aaload, 1) := by decide +kernel
theorem d_Tu_become_78 : decode b_Tu_become 78 = .ok (.aload_n 1, 1) := by decide +kernel
theorem d_Tu_become_79 : decode b_Tu_become 79 = .ok (.getfield 30, 3) := by decide +kernel
theorem d_Tu_become_82 : decode b_Tu_become 82 = .ok (.iload_n 2, 1) := by decide +kernel
theorem d_Tu_become_83 : decode b_Tu_become 83 = .ok (.aaload, 1) := by decide +kernel
theorem d_Tu_become_84 : decode b_Tu_become 84 = .ok (.invokevirtual 44, 3) := by decide +kernel
theorem d_Tu_become_87 : decode b_Tu_become 87 = .ok (.iinc 2 1, 3) := by decide +kernel
theorem d_Tu_become_90 : decode b_Tu_become 90 = .ok (.goto (-26), 3) := by decide +kernel
theorem d_Tu_become_93 : decode b_Tu_become 93 = .ok (.return_, 1) := by decide +kernel
theorem d_Tu_has_0 : decode b_Tu_has 0 = .ok (.iload_n 1, 1) := by decide +kernel
theorem d_Tu_has_1 : decode b_Tu_has 1 = .ok (.ifCond .lt 15, 3) := by decide +kernel
theorem d_Tu_has_4 : decode b_Tu_has 4 = .ok (.iload_n 1, 1) := by decide +kernel
theorem d_Tu_has_5 : decode b_Tu_has 5 = .ok (.aload_n 0, 1) := by decide +kernel
theorem d_Tu_has_6 : decode b_Tu_has 6 = .ok (.getfield 21, 3) := by decide +kernel
theorem d_Tu_has_9 : decode b_Tu_has 9 = .ok (.if_icmp .ge 7, 3) := by decide +kernel
theorem d_Tu_has_12 : decode b_Tu_has 12 = .ok (.iconst 1, 1) := by decide +kernel
theorem d_Tu_has_13 : decode b_Tu_has 13 = .ok (.goto 4, 3) := by decide +kernel
theorem d_Tu_has_16 : decode b_Tu_has 16 = .ok (.iconst 0, 1) := by decide +kernel
theorem d_Tu_has_17 : decode b_Tu_has 17 = .ok (.ireturn, 1) := by decide +kernel
theorem d_Tu_isFull_0 : decode b_Tu_isFull 0 = .ok (.aload_n 0, 1) := by decide +kernel
theorem d_Tu_isFull_1 : decode b_Tu_isFull 1 = .ok (.getfield 21, 3) := by decide +kernel
theorem d_Tu_isFull_4 : decode b_Tu_isFull 4 = .ok (.bipush 8, 2) := by decide +kernel
theorem d_Tu_isFull_6 : decode b_Tu_isFull 6 = .ok (.if_icmp .lt 7, 3) := by decide +kernel
theorem d_Tu_isFull_9 : decode b_Tu_isFull 9 = .ok (.iconst 1, 1) := by decide +kernel
theorem d_Tu_isFull_10 : decode b_Tu_isFull 10 = .ok (.goto 4, 3) := by decide +kernel
theorem d_Tu_isFull_13 : decode b_Tu_isFull 13 = .ok (.iconst 0, 1) := by decide +kernel
theorem d_Tu_isFull_14 : decode b_Tu_isFull 14 = .ok (.ireturn, 1) := by decide +kernel
theorem d_Tu_add_0 : decode b_Tu_add 0 = .ok (.aload_n 0, 1) := by decide +kernel
theorem d_Tu_add_1 : decode b_Tu_add 1 = .ok (.getfield 30, 3) := by decide +kernel
theorem d_Tu_add_4 : decode b_Tu_add 4 = .ok (.aload_n 0, 1) := by decide +kernel
theorem d_Tu_add_5 : decode b_Tu_add 5 = .ok (.getfield 21, 3) := by decide +kernel
theorem d_Tu_add_8 : decode b_Tu_add 8 = .ok (.aaload, 1) := by decide +kernel
theorem d_Tu_add_9 : decode b_Tu_add 9 = .ok (.iload_n 1, 1) := by decide +kernel
theorem d_Tu_add_10 : decode b_Tu_add 10 = .ok (.iload_n 2, 1) := by decide +kernel
theorem d_Tu_add_11 : decode b_Tu_add 11 = .ok (.invokevirtual 48, 3) := by decide +kernel
theorem d_Tu_add_14 : decode b_Tu_add 14 = .ok (.aload_n 0, 1) := by decide +kernel
theorem d_Tu_add_15 : decode b_Tu_add 15 = .ok (.dup, 1) := by decide +kernel
theorem d_Tu_add_16 : decode b_Tu_add 16 = .ok (.getfield 21, 3) := by decide +kernel
theorem d_Tu_add_19 : decode b_Tu_add 19 = .ok (.iconst 1, 1) := by decide +kernel
theorem d_Tu_add_20 : decode b_Tu_add 20 = .ok (.iadd, 1) := by decide +kernel
theorem d_Tu_add_21 : decode b_Tu_add 21 = .ok (.putfield 21, 3) := by decide +kernel
theorem d_Tu_add_24 : decode b_Tu_add 24 = .ok (.aload_n 0, 1) := by decide +kernel
theorem d_Tu_add_25 : decode b_Tu_add 25 = .ok (.getfield 21, 3) := by decide +kernel
theorem d_Tu_add_28 : decode b_Tu_add 28 = .ok (.iconst 1, 1) := by decide +kernel
theorem d_Tu_add_29 : decode b_Tu_add 29 = .ok (.isub, 1) := by decide +kernel
theorem d_Tu_add_30 : decode b_Tu_add 30 = .ok (.ireturn, 1) := by decide +kernel
theorem d_Tu_told_0 : decode b_Tu_told 0 = .ok (.aload_n 0, 1) := by decide +kernel
theorem d_Tu_told_1 : decode b_Tu_told 1 = .ok (.getfield 30, 3) := by decide +kernel
theorem d_Tu_told_4 : decode b_Tu_told 4 = .ok (.iload_n 1, 1) := by decide +kernel
theorem d_Tu_told_5 : decode b_Tu_told 5 = .ok (.aaload, 1) := by decide +kernel
theorem d_Tu_told_6 : decode b_Tu_told 6 = .ok (.astore_n 3, 1) := by decide +kernel
theorem d_Tu_told_7 : decode b_Tu_told 7 = .ok (.iload_n 2, 1) := by decide +kernel
theorem d_Tu_told_8 : decode b_Tu_told 8 = .ok (.tableswitch 113 0 8 #[52, 57, 62, 67, 72, 77, 82, 91, 108], 52) := by decide +kernel
theorem d_Tu_told_60 : decode b_Tu_told 60 = .ok (.aload_n 3, 1) := by decide +kernel
theorem d_Tu_told_61 : decode b_Tu_told 61 = .ok (.getfield 52, 3) := by decide +kernel
theorem d_Tu_told_64 : decode b_Tu_told 64 = .ok (.ireturn, 1) := by decide +kernel
theorem d_Tu_told_65 : decode b_Tu_told 65 = .ok (.aload_n 3, 1) := by decide +kernel
theorem d_Tu_told_66 : decode b_Tu_told 66 = .ok (.getfield 55, 3) := by decide +kernel
theorem d_Tu_told_69 : decode b_Tu_told 69 = .ok (.ireturn, 1) := by decide +kernel
theorem d_Tu_told_70 : decode b_Tu_told 70 = .ok (.aload_n 3, 1) := by decide +kernel
theorem d_Tu_told_71 : decode b_Tu_told 71 = .ok (.getfield 58, 3) := by decide +kernel
theorem d_Tu_told_74 : decode b_Tu_told 74 = .ok (.ireturn, 1) := by decide +kernel
theorem d_Tu_told_75 : decode b_Tu_told 75 = .ok (.aload_n 3, 1) := by decide +kernel
theorem d_Tu_told_76 : decode b_Tu_told 76 = .ok (.getfield 61, 3) := by decide +kernel
theorem d_Tu_told_79 : decode b_Tu_told 79 = .ok (.ireturn, 1) := by decide +kernel
theorem d_Tu_told_80 : decode b_Tu_told 80 = .ok (.aload_n 3, 1) := by decide +kernel
theorem d_Tu_told_81 : decode b_Tu_told 81 = .ok (.getfield 64, 3) := by decide +kernel
theorem d_Tu_told_84 : decode b_Tu_told 84 = .ok (.ireturn, 1) := by decide +kernel
theorem d_Tu_told_85 : decode b_Tu_told 85 = .ok (.aload_n 3, 1) := by decide +kernel
theorem d_Tu_told_86 : decode b_Tu_told 86 = .ok (.getfield 67, 3) := by decide +kernel
theorem d_Tu_told_89 : decode b_Tu_told 89 = .ok (.ireturn, 1) := by decide +kernel
theorem d_Tu_told_90 : decode b_Tu_told 90 = .ok (.aload_n 3, 1) := by decide +kernel
theorem d_Tu_told_91 : decode b_Tu_told 91 = .ok (.aload_n 0, 1) := by decide +kernel
theorem d_Tu_told_92 : decode b_Tu_told 92 = .ok (.getfield 9, 3) := by decide +kernel
theorem d_Tu_told_95 : decode b_Tu_told 95 = .ok (.invokevirtual 70, 3) := by decide +kernel
theorem d_Tu_told_98 : decode b_Tu_told 98 = .ok (.ireturn, 1) := by decide +kernel
theorem d_Tu_told_99 : decode b_Tu_told 99 = .ok (.aload_n 3, 1) := by decide +kernel
theorem d_Tu_told_100 : decode b_Tu_told 100 = .ok (.aload_n 0, 1) := by decide +kernel
theorem d_Tu_told_101 : decode b_Tu_told 101 = .ok (.getfield 15, 3) := by decide +kernel
theorem d_Tu_told_104 : decode b_Tu_told 104 = .ok (.invokevirtual 74, 3) := by decide +kernel
theorem d_Tu_told_107 : decode b_Tu_told 107 = .ok (.ifCond .eq 7, 3) := by decide +kernel
theorem d_Tu_told_110 : decode b_Tu_told 110 = .ok (.iconst 1, 1) := by decide +kernel
theorem d_Tu_told_111 : decode b_Tu_told 111 = .ok (.goto 4, 3) := by decide +kernel
theorem d_Tu_told_114 : decode b_Tu_told 114 = .ok (.iconst 0, 1) := by decide +kernel
theorem d_Tu_told_115 : decode b_Tu_told 115 = .ok (.ireturn, 1) := by decide +kernel
theorem d_Tu_told_116 : decode b_Tu_told 116 = .ok (.aload_n 3, 1) := by decide +kernel
theorem d_Tu_told_117 : decode b_Tu_told 117 = .ok (.invokevirtual 78, 3) := by decide +kernel
theorem d_Tu_told_120 : decode b_Tu_told 120 = .ok (.ireturn, 1) := by decide +kernel
theorem d_Tu_told_121 : decode b_Tu_told 121 = .ok (.aload_n 3, 1) := by decide +kernel
theorem d_Tu_told_122 : decode b_Tu_told 122 = .ok (.aload_n 0, 1) := by decide +kernel
theorem d_Tu_told_123 : decode b_Tu_told 123 = .ok (.getfield 9, 3) := by decide +kernel
theorem d_Tu_told_126 : decode b_Tu_told 126 = .ok (.invokevirtual 82, 3) := by decide +kernel
theorem d_Tu_told_129 : decode b_Tu_told 129 = .ok (.ireturn, 1) := by decide +kernel
theorem d_Tu_hasDays_0 : decode b_Tu_hasDays 0 = .ok (.iload_n 1, 1) := by decide +kernel
theorem d_Tu_hasDays_1 : decode b_Tu_hasDays 1 = .ok (.ldc 85, 2) := by decide +kernel
theorem d_Tu_hasDays_3 : decode b_Tu_hasDays 3 = .ok (.aload_n 0, 1) := by decide +kernel
theorem d_Tu_hasDays_4 : decode b_Tu_hasDays 4 = .ok (.getfield 9, 3) := by decide +kernel
theorem d_Tu_hasDays_7 : decode b_Tu_hasDays 7 = .ok (.isub, 1) := by decide +kernel
theorem d_Tu_hasDays_8 : decode b_Tu_hasDays 8 = .ok (.if_icmp .gt 7, 3) := by decide +kernel
theorem d_Tu_hasDays_11 : decode b_Tu_hasDays 11 = .ok (.iconst 1, 1) := by decide +kernel
theorem d_Tu_hasDays_12 : decode b_Tu_hasDays 12 = .ok (.goto 4, 3) := by decide +kernel
theorem d_Tu_hasDays_15 : decode b_Tu_hasDays 15 = .ok (.iconst 0, 1) := by decide +kernel
theorem d_Tu_hasDays_16 : decode b_Tu_hasDays 16 = .ok (.ireturn, 1) := by decide +kernel
theorem d_Tu_passDays_0 : decode b_Tu_passDays 0 = .ok (.iconst 0, 1) := by decide +kernel
theorem d_Tu_passDays_1 : decode b_Tu_passDays 1 = .ok (.istore_n 2, 1) := by decide +kernel
theorem d_Tu_passDays_2 : decode b_Tu_passDays 2 = .ok (.iload_n 2, 1) := by decide +kernel
theorem d_Tu_passDays_3 : decode b_Tu_passDays 3 = .ok (.iload_n 1, 1) := by decide +kernel
theorem d_Tu_passDays_4 : decode b_Tu_passDays 4 = .ok (.if_icmp .ge 13, 3) := by decide +kernel
theorem d_Tu_passDays_7 : decode b_Tu_passDays 7 = .ok (.aload_n 0, 1) := by decide +kernel
theorem d_Tu_passDays_8 : decode b_Tu_passDays 8 = .ok (.invokevirtual 86, 3) := by decide +kernel
theorem d_Tu_passDays_11 : decode b_Tu_passDays 11 = .ok (.iinc 2 1, 3) := by decide +kernel
theorem d_Tu_passDays_14 : decode b_Tu_passDays 14 = .ok (.goto (-12), 3) := by decide +kernel
theorem d_Tu_passDays_17 : decode b_Tu_passDays 17 = .ok (.return_, 1) := by decide +kernel
theorem d_Tu_passDay_0 : decode b_Tu_passDay 0 = .ok (.aload_n 0, 1) := by decide +kernel
theorem d_Tu_passDay_1 : decode b_Tu_passDay 1 = .ok (.getfield 24, 3) := by decide +kernel
theorem d_Tu_passDay_4 : decode b_Tu_passDay 4 = .ok (.aload_n 0, 1) := by decide +kernel
theorem d_Tu_passDay_5 : decode b_Tu_passDay 5 = .ok (.getfield 9, 3) := by decide +kernel
theorem d_Tu_passDay_8 : decode b_Tu_passDay 8 = .ok (.bipush 6, 2) := by decide +kernel
theorem d_Tu_passDay_10 : decode b_Tu_passDay 10 = .ok (.irem, 1) := by decide +kernel
theorem d_Tu_passDay_11 : decode b_Tu_passDay 11 = .ok (.iaload, 1) := by decide +kernel
theorem d_Tu_passDay_12 : decode b_Tu_passDay 12 = .ok (.istore_n 1, 1) := by decide +kernel
theorem d_Tu_passDay_13 : decode b_Tu_passDay 13 = .ok (.iconst 0, 1) := by decide +kernel
theorem d_Tu_passDay_14 : decode b_Tu_passDay 14 = .ok (.istore_n 2, 1) := by decide +kernel
theorem d_Tu_passDay_15 : decode b_Tu_passDay 15 = .ok (.iload_n 2, 1) := by decide +kernel
theorem d_Tu_passDay_16 : decode b_Tu_passDay 16 = .ok (.aload_n 0, 1) := by decide +kernel
theorem d_Tu_passDay_17 : decode b_Tu_passDay 17 = .ok (.getfield 21, 3) := by decide +kernel
theorem d_Tu_passDay_20 : decode b_Tu_passDay 20 = .ok (.if_icmp .ge 27, 3) := by decide +kernel
theorem d_Tu_passDay_23 : decode b_Tu_passDay 23 = .ok (.aload_n 0, 1) := by decide +kernel
theorem d_Tu_passDay_24 : decode b_Tu_passDay 24 = .ok (.getfield 30, 3) := by decide +kernel
theorem d_Tu_passDay_27 : decode b_Tu_passDay 27 = .ok (.iload_n 2, 1) := by decide +kernel
theorem d_Tu_passDay_28 : decode b_Tu_passDay 28 = .ok (.aaload, 1) := by decide +kernel
theorem d_Tu_passDay_29 : decode b_Tu_passDay 29 = .ok (.iload_n 1, 1) := by decide +kernel
theorem d_Tu_passDay_30 : decode b_Tu_passDay 30 = .ok (.aload_n 0, 1) := by decide +kernel
theorem d_Tu_passDay_31 : decode b_Tu_passDay 31 = .ok (.getfield 9, 3) := by decide +kernel
theorem d_Tu_passDay_34 : decode b_Tu_passDay 34 = .ok (.aload_n 0, 1) := by decide +kernel
theorem d_Tu_passDay_35 : decode b_Tu_passDay 35 = .ok (.getfield 15, 3) := by decide +kernel
theorem d_Tu_passDay_38 : decode b_Tu_passDay 38 = .ok (.invokevirtual 89, 3) := by decide +kernel
theorem d_Tu_passDay_41 : decode b_Tu_passDay 41 = .ok (.iinc 2 1, 3) := by decide +kernel
theorem d_Tu_passDay_44 : decode b_Tu_passDay 44 = .ok (.goto (-29), 3) := by decide +kernel
theorem d_Tu_passDay_47 : decode b_Tu_passDay 47 = .ok (.aload_n 0, 1) := by decide +kernel
theorem d_Tu_passDay_48 : decode b_Tu_passDay 48 = .ok (.invokevirtual 93, 3) := by decide +kernel
theorem d_Tu_passDay_51 : decode b_Tu_passDay 51 = .ok (.aload_n 0, 1) := by decide +kernel
theorem d_Tu_passDay_52 : decode b_Tu_passDay 52 = .ok (.getfield 15, 3) := by decide +kernel
theorem d_Tu_passDay_55 : decode b_Tu_passDay 55 = .ok (.ifCond .le 18, 3) := by decide +kernel
theorem d_Tu_passDay_58 : decode b_Tu_passDay 58 = .ok (.aload_n 0, 1) := by decide +kernel
theorem d_Tu_passDay_59 : decode b_Tu_passDay 59 = .ok (.bipush 99, 2) := by decide +kernel
theorem d_Tu_passDay_61 : decode b_Tu_passDay 61 = .ok (.aload_n 0, 1) := by decide +kernel
theorem d_Tu_passDay_62 : decode b_Tu_passDay 62 = .ok (.getfield 15, 3) := by decide +kernel
theorem d_Tu_passDay_65 : decode b_Tu_passDay 65 = .ok (.iconst 5, 1) := by decide +kernel
theorem d_Tu_passDay_66 : decode b_Tu_passDay 66 = .ok (.iadd, 1) := by decide +kernel
theorem d_Tu_passDay_67 : decode b_Tu_passDay 67 = .ok (.invokestatic 96, 3) := by decide +kernel
theorem d_Tu_passDay_70 : decode b_Tu_passDay 70 = .ok (.putfield 15, 3) := by decide +kernel
theorem d_Tu_passDay_73 : decode b_Tu_passDay 73 = .ok (.iconst 0, 1) := by decide +kernel
theorem d_Tu_passDay_74 : decode b_Tu_passDay 74 = .ok (.istore_n 2, 1) := by decide +kernel
theorem d_Tu_passDay_75 : decode b_Tu_passDay 75 = .ok (.iload_n 2, 1) := by decide +kernel
theorem d_Tu_passDay_76 : decode b_Tu_passDay 76 = .ok (.aload_n 0, 1) := by decide +kernel
theorem d_Tu_passDay_77 : decode b_Tu_passDay 77 = .ok (.getfield 21, 3) := by decide +kernel
theorem d_Tu_passDay_80 : decode b_Tu_passDay 80 = .ok (.if_icmp .ge 22, 3) := by decide +kernel
theorem d_Tu_passDay_83 : decode b_Tu_passDay 83 = .ok (.aload_n 0, 1) := by decide +kernel
theorem d_Tu_passDay_84 : decode b_Tu_passDay 84 = .ok (.getfield 30, 3) := by decide +kernel
theorem d_Tu_passDay_87 : decode b_Tu_passDay 87 = .ok (.iload_n 2, 1) := by decide +kernel
theorem d_Tu_passDay_88 : decode b_Tu_passDay 88 = .ok (.aaload, 1) := by decide +kernel
theorem d_Tu_passDay_89 : decode b_Tu_passDay 89 = .ok (.aload_n 0, 1) := by decide +kernel
theorem d_Tu_passDay_90 : decode b_Tu_passDay 90 = .ok (.getfield 9, 3) := by decide +kernel
theorem d_Tu_passDay_93 : decode b_Tu_passDay 93 = .ok (.invokevirtual 102, 3) := by decide +kernel
theorem d_Tu_passDay_96 : decode b_Tu_passDay 96 = .ok (.iinc 2 1, 3) := by decide +kernel
theorem d_Tu_passDay_99 : decode b_Tu_passDay 99 = .ok (.goto (-24), 3) := by decide +kernel
theorem d_Tu_passDay_102 : decode b_Tu_passDay 102 = .ok (.aload_n 0, 1) := by decide +kernel
theorem d_Tu_passDay_103 : decode b_Tu_passDay 103 = .ok (.ldc 85, 2) := by decide +kernel
theorem d_Tu_passDay_105 : decode b_Tu_passDay 105 = .ok (.aload_n 0, 1) := by decide +kernel
theorem d_Tu_passDay_106 : decode b_Tu_passDay 106 = .ok (.getfield 9, 3) := by decide +kernel
theorem d_Tu_passDay_109 : decode b_Tu_passDay 109 = .ok (.iconst 1, 1) := by decide +kernel
theorem d_Tu_passDay_110 : decode b_Tu_passDay 110 = .ok (.iadd, 1) := by decide +kernel
theorem d_Tu_passDay_111 : decode b_Tu_passDay 111 = .ok (.invokestatic 96, 3) := by decide +kernel
theorem d_Tu_passDay_114 : decode b_Tu_passDay 114 = .ok (.putfield 9, 3) := by decide +kernel
theorem d_Tu_passDay_117 : decode b_Tu_passDay 117 = .ok (.return_, 1) := by decide +kernel
theorem d_Tu_meetAll_0 : decode b_Tu_meetAll 0 = .ok (.iconst 0, 1) := by decide +kernel
theorem d_Tu_meetAll_1 : decode b_Tu_meetAll 1 = .ok (.istore_n 1, 1) := by decide +kernel
theorem d_Tu_meetAll_2 : decode b_Tu_meetAll 2 = .ok (.iload_n 1, 1) := by decide +kernel
theorem d_Tu_meetAll_3 : decode b_Tu_meetAll 3 = .ok (.aload_n 0, 1) := by decide +kernel
theorem d_Tu_meetAll_4 : decode b_Tu_meetAll 4 = .ok (.getfield 21, 3) := by decide +kernel
theorem d_Tu_meetAll_7 : decode b_Tu_meetAll 7 = .ok (.if_icmp .ge 83, 3) := by decide +kernel
theorem d_Tu_meetAll_10 : decode b_Tu_meetAll 10 = .ok (.aload_n 0, 1) := by decide +kernel
theorem d_Tu_meetAll_11 : decode b_Tu_meetAll 11 = .ok (.getfield 30, 3) := by decide +kernel
theorem d_Tu_meetAll_14 : decode b_Tu_meetAll 14 = .ok (.iload_n 1, 1) := by decide +kernel
theorem d_Tu_meetAll_15 : decode b_Tu_meetAll 15 = .ok (.aaload, 1) := by decide +kernel
theorem d_Tu_meetAll_16 : decode b_Tu_meetAll 16 = .ok (.astore_n 2, 1) := by decide +kernel
theorem d_Tu_meetAll_17 : decode b_Tu_meetAll 17 = .ok (.iload_n 1, 1) := by decide +kernel
theorem d_Tu_meetAll_18 : decode b_Tu_meetAll 18 = .ok (.iconst 1, 1) := by decide +kernel
theorem d_Tu_meetAll_19 : decode b_Tu_meetAll 19 = .ok (.iadd, 1) := by decide +kernel
theorem d_Tu_meetAll_20 : decode b_Tu_meetAll 20 = .ok (.istore_n 3, 1) := by decide +kernel
theorem d_Tu_meetAll_21 : decode b_Tu_meetAll 21 = .ok (.iload_n 3, 1) := by decide +kernel
theorem d_Tu_meetAll_22 : decode b_Tu_meetAll 22 = .ok (.aload_n 0, 1) := by decide +kernel
theorem d_Tu_meetAll_23 : decode b_Tu_meetAll 23 = .ok (.getfield 21, 3) := by decide +kernel
theorem d_Tu_meetAll_26 : decode b_Tu_meetAll 26 = .ok (.if_icmp .ge 58, 3) := by decide +kernel
theorem d_Tu_meetAll_29 : decode b_Tu_meetAll 29 = .ok (.aload_n 0, 1) := by decide +kernel
theorem d_Tu_meetAll_30 : decode b_Tu_meetAll 30 = .ok (.getfield 30, 3) := by decide +kernel
theorem d_Tu_meetAll_33 : decode b_Tu_meetAll 33 = .ok (.iload_n 3, 1) := by decide +kernel
theorem d_Tu_meetAll_34 : decode b_Tu_meetAll 34 = .ok (.aaload, 1) := by decide +kernel
theorem d_Tu_meetAll_35 : decode b_Tu_meetAll 35 = .ok (.astore 4, 2) := by decide +kernel
theorem d_Tu_meetAll_37 : decode b_Tu_meetAll 37 = .ok (.aload_n 2, 1) := by decide +kernel
theorem d_Tu_meetAll_38 : decode b_Tu_meetAll 38 = .ok (.aload 4, 2) := by decide +kernel
theorem d_Tu_meetAll_40 : decode b_Tu_meetAll 40 = .ok (.invokevirtual 106, 3) := by decide +kernel
theorem d_Tu_meetAll_43 : decode b_Tu_meetAll 43 = .ok (.ifCond .eq 35, 3) := by decide +kernel
theorem d_Tu_meetAll_46 : decode b_Tu_meetAll 46 = .ok (.aload_n 2, 1) := by decide +kernel
theorem d_Tu_meetAll_47 : decode b_Tu_meetAll 47 = .ok (.invokevirtual 110, 3) := by decide +kernel
theorem d_Tu_meetAll_50 : decode b_Tu_meetAll 50 = .ok (.aload 4, 2) := by decide +kernel
theorem d_Tu_meetAll_52 : decode b_Tu_meetAll 52 = .ok (.invokevirtual 110, 3) := by decide +kernel
theorem d_Tu_meetAll_55 : decode b_Tu_meetAll 55 = .ok (.aload_n 0, 1) := by decide +kernel
theorem d_Tu_meetAll_56 : decode b_Tu_meetAll 56 = .ok (.iconst 0, 1) := by decide +kernel
theorem d_Tu_meetAll_57 : decode b_Tu_meetAll 57 = .ok (.aload_n 0, 1) := by decide +kernel
theorem d_Tu_meetAll_58 : decode b_Tu_meetAll 58 = .ok (.getfield 15, 3) := by decide +kernel
theorem d_Tu_meetAll_61 : decode b_Tu_meetAll 61 = .ok (.aload_n 2, 1) := by decide +kernel
theorem d_Tu_meetAll_62 : decode b_Tu_meetAll 62 = .ok (.invokevirtual 78, 3) := by decide +kernel
theorem d_Tu_meetAll_65 : decode b_Tu_meetAll 65 = .ok (.isub, 1) := by decide +kernel
theorem d_Tu_meetAll_66 : decode b_Tu_meetAll 66 = .ok (.aload 4, 2) := by decide +kernel
theorem d_Tu_meetAll_68 : decode b_Tu_meetAll 68 = .ok (.invokevirtual 78, 3) := by decide +kernel
theorem d_Tu_meetAll_71 : decode b_Tu_meetAll 71 = .ok (.isub, 1) := by decide +kernel
theorem d_Tu_meetAll_72 : decode b_Tu_meetAll 72 = .ok (.invokestatic 113, 3) := by decide +kernel
theorem d_Tu_meetAll_75 : decode b_Tu_meetAll 75 = .ok (.putfield 15, 3) := by decide +kernel
theorem d_Tu_meetAll_78 : decode b_Tu_meetAll 78 = .ok (.iinc 3 1, 3) := by decide +kernel
theorem d_Tu_meetAll_81 : decode b_Tu_meetAll 81 = .ok (.goto (-60), 3) := by decide +kernel
theorem d_Tu_meetAll_84 : decode b_Tu_meetAll 84 = .ok (.iinc 1 1, 3) := by decide +kernel
theorem d_Tu_meetAll_87 : decode b_Tu_meetAll 87 = .ok (.goto (-85), 3) := by decide +kernel
theorem d_Tu_meetAll_90 : decode b_Tu_meetAll 90 = .ok (.return_, 1) := by decide +kernel
theorem d_Tu_passDrawnDay_0 : decode b_Tu_passDrawnDay 0 = .ok (.aload_n 0, 1) := by decide +kernel
theorem d_Tu_passDrawnDay_1 : decode b_Tu_passDrawnDay 1 = .ok (.getfield 24, 3) := by decide +kernel
theorem d_Tu_passDrawnDay_4 : decode b_Tu_passDrawnDay 4 = .ok (.aload_n 0, 1) := by decide +kernel
theorem d_Tu_passDrawnDay_5 : decode b_Tu_passDrawnDay 5 = .ok (.getfield 9, 3) := by decide +kernel
theorem d_Tu_passDrawnDay_8 : decode b_Tu_passDrawnDay 8 = .ok (.bipush 6, 2) := by decide +kernel
theorem d_Tu_passDrawnDay_10 : decode b_Tu_passDrawnDay 10 = .ok (.irem, 1) := by decide +kernel
theorem d_Tu_passDrawnDay_11 : decode b_Tu_passDrawnDay 11 = .ok (.aload_n 0, 1) := by decide +kernel
theorem d_Tu_passDrawnDay_12 : decode b_Tu_passDrawnDay 12 = .ok (.invokevirtual 116, 3) := by decide +kernel
theorem d_Tu_passDrawnDay_15 : decode b_Tu_passDrawnDay 15 = .ok (.bipush 16, 2) := by decide +kernel
theorem d_Tu_passDrawnDay_17 : decode b_Tu_passDrawnDay 17 = .ok (.irem, 1) := by decide +kernel
theorem d_Tu_passDrawnDay_18 : decode b_Tu_passDrawnDay 18 = .ok (.iastore, 1) := by decide +kernel
theorem d_Tu_passDrawnDay_19 : decode b_Tu_passDrawnDay 19 = .ok (.aload_n 0, 1) := by decide +kernel
theorem d_Tu_passDrawnDay_20 : decode b_Tu_passDrawnDay 20 = .ok (.invokevirtual 116, 3) := by decide +kernel
theorem d_Tu_passDrawnDay_23 : decode b_Tu_passDrawnDay 23 = .ok (.bipush 8, 2) := by decide +kernel
theorem d_Tu_passDrawnDay_25 : decode b_Tu_passDrawnDay 25 = .ok (.irem, 1) := by decide +kernel
theorem d_Tu_passDrawnDay_26 : decode b_Tu_passDrawnDay 26 = .ok (.istore_n 1, 1) := by decide +kernel
theorem d_Tu_passDrawnDay_27 : decode b_Tu_passDrawnDay 27 = .ok (.aload_n 0, 1) := by decide +kernel
theorem d_Tu_passDrawnDay_28 : decode b_Tu_passDrawnDay 28 = .ok (.iload_n 1, 1) := by decide +kernel
theorem d_Tu_passDrawnDay_29 : decode b_Tu_passDrawnDay 29 = .ok (.invokevirtual 119, 3) := by decide +kernel
theorem d_Tu_passDrawnDay_32 : decode b_Tu_passDrawnDay 32 = .ok (.ifCond .eq 31, 3) := by decide +kernel
theorem d_Tu_passDrawnDay_35 : decode b_Tu_passDrawnDay 35 = .ok (.aload_n 0, 1) := by decide +kernel
theorem d_Tu_passDrawnDay_36 : decode b_Tu_passDrawnDay 36 = .ok (.getfield 30, 3) := by decide +kernel
theorem d_Tu_passDrawnDay_39 : decode b_Tu_passDrawnDay 39 = .ok (.iload_n 1, 1) := by decide +kernel
theorem d_Tu_passDrawnDay_40 : decode b_Tu_passDrawnDay 40 = .ok (.aaload, 1) := by decide +kernel
theorem d_Tu_passDrawnDay_41 : decode b_Tu_passDrawnDay 41 = .ok (.getstatic 122, 3) := by decide +kernel
theorem d_Tu_passDrawnDay_44 : decode b_Tu_passDrawnDay 44 = .ok (.iconst 4, 1) := by decide +kernel
theorem d_Tu_passDrawnDay_45 : decode b_Tu_passDrawnDay 45 = .ok (.iaload, 1) := by decide +kernel
theorem d_Tu_passDrawnDay_46 : decode b_Tu_passDrawnDay 46 = .ok (.aload_n 0, 1) := by decide +kernel
theorem d_Tu_passDrawnDay_47 : decode b_Tu_passDrawnDay 47 = .ok (.getfield 30, 3) := by decide +kernel
theorem d_Tu_passDrawnDay_50 : decode b_Tu_passDrawnDay 50 = .ok (.iload_n 1, 1) := by decide +kernel
theorem d_Tu_passDrawnDay_51 : decode b_Tu_passDrawnDay 51 = .ok (.aaload, 1) := by decide +kernel
theorem d_Tu_passDrawnDay_52 : decode b_Tu_passDrawnDay 52 = .ok (.getfield 64, 3) := by decide +kernel
theorem d_Tu_passDrawnDay_55 : decode b_Tu_passDrawnDay 55 = .ok (.iconst 1, 1) := by decide +kernel
theorem d_Tu_passDrawnDay_56 : decode b_Tu_passDrawnDay 56 = .ok (.iadd, 1) := by decide +kernel
theorem d_Tu_passDrawnDay_57 : decode b_Tu_passDrawnDay 57 = .ok (.invokestatic 96, 3) := by decide +kernel
theorem d_Tu_passDrawnDay_60 : decode b_Tu_passDrawnDay 60 = .ok (.putfield 64, 3) := by decide +kernel
theorem d_Tu_passDrawnDay_63 : decode b_Tu_passDrawnDay 63 = .ok (.aload_n 0, 1) := by decide +kernel
theorem d_Tu_passDrawnDay_64 : decode b_Tu_passDrawnDay 64 = .ok (.invokevirtual 86, 3) := by decide +kernel
theorem d_Tu_passDrawnDay_67 : decode b_Tu_passDrawnDay 67 = .ok (.return_, 1) := by decide +kernel
theorem d_Tu_draw_0 : decode b_Tu_draw 0 = .ok (.aload_n 0, 1) := by decide +kernel
theorem d_Tu_draw_1 : decode b_Tu_draw 1 = .ok (.aload_n 0, 1) := by decide +kernel
theorem d_Tu_draw_2 : decode b_Tu_draw 2 = .ok (.getfield 18, 3) := by decide +kernel
theorem d_Tu_draw_5 : decode b_Tu_draw 5 = .ok (.ldc 125, 2) := by decide +kernel
theorem d_Tu_draw_7 : decode b_Tu_draw 7 = .ok (.imul, 1) := by decide +kernel
theorem d_Tu_draw_8 : decode b_Tu_draw 8 = .ok (.sipush 12345, 3) := by decide +kernel
theorem d_Tu_draw_11 : decode b_Tu_draw 11 = .ok (.iadd, 1) := by decide +kernel
theorem d_Tu_draw_12 : decode b_Tu_draw 12 = .ok (.putfield 18, 3) := by decide +kernel
theorem d_Tu_draw_15 : decode b_Tu_draw 15 = .ok (.aload_n 0, 1) := by decide +kernel
theorem d_Tu_draw_16 : decode b_Tu_draw 16 = .ok (.getfield 18, 3) := by decide +kernel
theorem d_Tu_draw_19 : decode b_Tu_draw 19 = .ok (.bipush 8, 2) := by decide +kernel
theorem d_Tu_draw_21 : decode b_Tu_draw 21 = .ok (.iushr, 1) := by decide +kernel
theorem d_Tu_draw_22 : decode b_Tu_draw 22 = .ok (.ireturn, 1) := by decide +kernel
theorem d_Tu_allMet_0 : decode b_Tu_allMet 0 = .ok (.iconst 0, 1) := by decide +kernel
theorem d_Tu_allMet_1 : decode b_Tu_allMet 1 = .ok (.istore_n 1, 1) := by decide +kernel
theorem d_Tu_allMet_2 : decode b_Tu_allMet 2 = .ok (.iconst 0, 1) := by decide +kernel
theorem d_Tu_allMet_3 : decode b_Tu_allMet 3 = .ok (.istore_n 2, 1) := by decide +kernel
theorem d_Tu_allMet_4 : decode b_Tu_allMet 4 = .ok (.iload_n 2, 1) := by decide +kernel
theorem d_Tu_allMet_5 : decode b_Tu_allMet 5 = .ok (.aload_n 0, 1) := by decide +kernel
theorem d_Tu_allMet_6 : decode b_Tu_allMet 6 = .ok (.getfield 21, 3) := by decide +kernel
theorem d_Tu_allMet_9 : decode b_Tu_allMet 9 = .ok (.if_icmp .ge 21, 3) := by decide +kernel
theorem d_Tu_allMet_12 : decode b_Tu_allMet 12 = .ok (.iload_n 1, 1) := by decide +kernel
theorem d_Tu_allMet_13 : decode b_Tu_allMet 13 = .ok (.aload_n 0, 1) := by decide +kernel
theorem d_Tu_allMet_14 : decode b_Tu_allMet 14 = .ok (.getfield 30, 3) := by decide +kernel
theorem d_Tu_allMet_17 : decode b_Tu_allMet 17 = .ok (.iload_n 2, 1) := by decide +kernel
theorem d_Tu_allMet_18 : decode b_Tu_allMet 18 = .ok (.aaload, 1) := by decide +kernel
theorem d_Tu_allMet_19 : decode b_Tu_allMet 19 = .ok (.getfield 67, 3) := by decide +kernel
theorem d_Tu_allMet_22 : decode b_Tu_allMet 22 = .ok (.iadd, 1) := by decide +kernel
theorem d_Tu_allMet_23 : decode b_Tu_allMet 23 = .ok (.istore_n 1, 1) := by decide +kernel
theorem d_Tu_allMet_24 : decode b_Tu_allMet 24 = .ok (.iinc 2 1, 3) := by decide +kernel
theorem d_Tu_allMet_27 : decode b_Tu_allMet 27 = .ok (.goto (-23), 3) := by decide +kernel
theorem d_Tu_allMet_30 : decode b_Tu_allMet 30 = .ok (.iload_n 1, 1) := by decide +kernel
theorem d_Tu_allMet_31 : decode b_Tu_allMet 31 = .ok (.ireturn, 1) := by decide +kernel
theorem d_Tu_peopleAt_0 : decode b_Tu_peopleAt 0 = .ok (.iconst 0, 1) := by decide +kernel
theorem d_Tu_peopleAt_1 : decode b_Tu_peopleAt 1 = .ok (.istore_n 2, 1) := by decide +kernel
theorem d_Tu_peopleAt_2 : decode b_Tu_peopleAt 2 = .ok (.iconst 0, 1) := by decide +kernel
theorem d_Tu_peopleAt_3 : decode b_Tu_peopleAt 3 = .ok (.istore_n 3, 1) := by decide +kernel
theorem d_Tu_peopleAt_4 : decode b_Tu_peopleAt 4 = .ok (.iload_n 3, 1) := by decide +kernel
theorem d_Tu_peopleAt_5 : decode b_Tu_peopleAt 5 = .ok (.aload_n 0, 1) := by decide +kernel
theorem d_Tu_peopleAt_6 : decode b_Tu_peopleAt 6 = .ok (.getfield 21, 3) := by decide +kernel
theorem d_Tu_peopleAt_9 : decode b_Tu_peopleAt 9 = .ok (.if_icmp .ge 28, 3) := by decide +kernel
theorem d_Tu_peopleAt_12 : decode b_Tu_peopleAt 12 = .ok (.aload_n 0, 1) := by decide +kernel
theorem d_Tu_peopleAt_13 : decode b_Tu_peopleAt 13 = .ok (.getfield 30, 3) := by decide +kernel
theorem d_Tu_peopleAt_16 : decode b_Tu_peopleAt 16 = .ok (.iload_n 3, 1) := by decide +kernel
theorem d_Tu_peopleAt_17 : decode b_Tu_peopleAt 17 = .ok (.aaload, 1) := by decide +kernel
theorem d_Tu_peopleAt_18 : decode b_Tu_peopleAt 18 = .ok (.getfield 58, 3) := by decide +kernel
theorem d_Tu_peopleAt_21 : decode b_Tu_peopleAt 21 = .ok (.iload_n 1, 1) := by decide +kernel
theorem d_Tu_peopleAt_22 : decode b_Tu_peopleAt 22 = .ok (.if_icmp .ne 9, 3) := by decide +kernel
theorem d_Tu_peopleAt_25 : decode b_Tu_peopleAt 25 = .ok (.iload_n 2, 1) := by decide +kernel
theorem d_Tu_peopleAt_26 : decode b_Tu_peopleAt 26 = .ok (.iconst 1, 1) := by decide +kernel
theorem d_Tu_peopleAt_27 : decode b_Tu_peopleAt 27 = .ok (.iload_n 3, 1) := by decide +kernel
theorem d_Tu_peopleAt_28 : decode b_Tu_peopleAt 28 = .ok (.ishl, 1) := by decide +kernel
theorem d_Tu_peopleAt_29 : decode b_Tu_peopleAt 29 = .ok (.ior, 1) := by decide +kernel
theorem d_Tu_peopleAt_30 : decode b_Tu_peopleAt 30 = .ok (.istore_n 2, 1) := by decide +kernel
theorem d_Tu_peopleAt_31 : decode b_Tu_peopleAt 31 = .ok (.iinc 3 1, 3) := by decide +kernel
theorem d_Tu_peopleAt_34 : decode b_Tu_peopleAt 34 = .ok (.goto (-30), 3) := by decide +kernel
theorem d_Tu_peopleAt_37 : decode b_Tu_peopleAt 37 = .ok (.iload_n 2, 1) := by decide +kernel
theorem d_Tu_peopleAt_38 : decode b_Tu_peopleAt 38 = .ok (.ireturn, 1) := by decide +kernel
theorem d_Tu_peopleAbroad_0 : decode b_Tu_peopleAbroad 0 = .ok (.iconst 0, 1) := by decide +kernel
theorem d_Tu_peopleAbroad_1 : decode b_Tu_peopleAbroad 1 = .ok (.istore_n 1, 1) := by decide +kernel
theorem d_Tu_peopleAbroad_2 : decode b_Tu_peopleAbroad 2 = .ok (.iconst 0, 1) := by decide +kernel
theorem d_Tu_peopleAbroad_3 : decode b_Tu_peopleAbroad 3 = .ok (.istore_n 2, 1) := by decide +kernel
theorem d_Tu_peopleAbroad_4 : decode b_Tu_peopleAbroad 4 = .ok (.iload_n 2, 1) := by decide +kernel
theorem d_Tu_peopleAbroad_5 : decode b_Tu_peopleAbroad 5 = .ok (.aload_n 0, 1) := by decide +kernel
theorem d_Tu_peopleAbroad_6 : decode b_Tu_peopleAbroad 6 = .ok (.getfield 21, 3) := by decide +kernel
theorem d_Tu_peopleAbroad_9 : decode b_Tu_peopleAbroad 9 = .ok (.if_icmp .ge 27, 3) := by decide +kernel
theorem d_Tu_peopleAbroad_12 : decode b_Tu_peopleAbroad 12 = .ok (.aload_n 0, 1) := by decide +kernel
theorem d_Tu_peopleAbroad_13 : decode b_Tu_peopleAbroad 13 = .ok (.getfield 30, 3) := by decide +kernel
theorem d_Tu_peopleAbroad_16 : decode b_Tu_peopleAbroad 16 = .ok (.iload_n 2, 1) := by decide +kernel
theorem d_Tu_peopleAbroad_17 : decode b_Tu_peopleAbroad 17 = .ok (.aaload, 1) := by decide +kernel
theorem d_Tu_peopleAbroad_18 : decode b_Tu_peopleAbroad 18 = .ok (.invokevirtual 126, 3) := by decide +kernel
theorem d_Tu_peopleAbroad_21 : decode b_Tu_peopleAbroad 21 = .ok (.ifCond .eq 9, 3) := by decide +kernel
theorem d_Tu_peopleAbroad_24 : decode b_Tu_peopleAbroad 24 = .ok (.iload_n 1, 1) := by decide +kernel
theorem d_Tu_peopleAbroad_25 : decode b_Tu_peopleAbroad 25 = .ok (.iconst 1, 1) := by decide +kernel
theorem d_Tu_peopleAbroad_26 : decode b_Tu_peopleAbroad 26 = .ok (.iload_n 2, 1) := by decide +kernel
theorem d_Tu_peopleAbroad_27 : decode b_Tu_peopleAbroad 27 = .ok (.ishl, 1) := by decide +kernel
theorem d_Tu_peopleAbroad_28 : decode b_Tu_peopleAbroad 28 = .ok (.ior, 1) := by decide +kernel
theorem d_Tu_peopleAbroad_29 : decode b_Tu_peopleAbroad 29 = .ok (.istore_n 1, 1) := by decide +kernel
theorem d_Tu_peopleAbroad_30 : decode b_Tu_peopleAbroad 30 = .ok (.iinc 2 1, 3) := by decide +kernel
theorem d_Tu_peopleAbroad_33 : decode b_Tu_peopleAbroad 33 = .ok (.goto (-29), 3) := by decide +kernel
theorem d_Tu_peopleAbroad_36 : decode b_Tu_peopleAbroad 36 = .ok (.iload_n 1, 1) := by decide +kernel
theorem d_Tu_peopleAbroad_37 : decode b_Tu_peopleAbroad 37 = .ok (.ireturn, 1) := by decide +kernel
theorem d_Tu_peopleWithSeason_0 : decode b_Tu_peopleWithSeason 0 = .ok (.iconst 0, 1) := by decide +kernel
theorem d_Tu_peopleWithSeason_1 : decode b_Tu_peopleWithSeason 1 = .ok (.istore_n 1, 1) := by decide +kernel
theorem d_Tu_peopleWithSeason_2 : decode b_Tu_peopleWithSeason 2 = .ok (.iconst 0, 1) := by decide +kernel
theorem d_Tu_peopleWithSeason_3 : decode b_Tu_peopleWithSeason 3 = .ok (.istore_n 2, 1) := by decide +kernel
theorem d_Tu_peopleWithSeason_4 : decode b_Tu_peopleWithSeason 4 = .ok (.iload_n 2, 1) := by decide +kernel
theorem d_Tu_peopleWithSeason_5 : decode b_Tu_peopleWithSeason 5 = .ok (.aload_n 0, 1) := by decide +kernel
theorem d_Tu_peopleWithSeason_6 : decode b_Tu_peopleWithSeason 6 = .ok (.getfield 21, 3) := by decide +kernel
theorem d_Tu_peopleWithSeason_9 : decode b_Tu_peopleWithSeason 9 = .ok (.if_icmp .ge 27, 3) := by decide +kernel
theorem d_Tu_peopleWithSeason_12 : decode b_Tu_peopleWithSeason 12 = .ok (.aload_n 0, 1) := by decide +kernel
theorem d_Tu_peopleWithSeason_13 : decode b_Tu_peopleWithSeason 13 = .ok (.getfield 30, 3) := by decide +kernel
theorem d_Tu_peopleWithSeason_16 : decode b_Tu_peopleWithSeason 16 = .ok (.iload_n 2, 1) := by decide +kernel
theorem d_Tu_peopleWithSeason_17 : decode b_Tu_peopleWithSeason 17 = .ok (.aaload, 1) := by decide +kernel
theorem d_Tu_peopleWithSeason_18 : decode b_Tu_peopleWithSeason 18 = .ok (.getfield 61, 3) := by decide +kernel
theorem d_Tu_peopleWithSeason_21 : decode b_Tu_peopleWithSeason 21 = .ok (.ifCond .le 9, 3) := by decide +kernel
theorem d_Tu_peopleWithSeason_24 : decode b_Tu_peopleWithSeason 24 = .ok (.iload_n 1, 1) := by decide +kernel
theorem d_Tu_peopleWithSeason_25 : decode b_Tu_peopleWithSeason 25 = .ok (.iconst 1, 1) := by decide +kernel
theorem d_Tu_peopleWithSeason_26 : decode b_Tu_peopleWithSeason 26 = .ok (.iload_n 2, 1) := by decide +kernel
theorem d_Tu_peopleWithSeason_27 : decode b_Tu_peopleWithSeason 27 = .ok (.ishl, 1) := by decide +kernel
theorem d_Tu_peopleWithSeason_28 : decode b_Tu_peopleWithSeason 28 = .ok (.ior, 1) := by decide +kernel
theorem d_Tu_peopleWithSeason_29 : decode b_Tu_peopleWithSeason 29 = .ok (.istore_n 1, 1) := by decide +kernel
theorem d_Tu_peopleWithSeason_30 : decode b_Tu_peopleWithSeason 30 = .ok (.iinc 2 1, 3) := by decide +kernel
theorem d_Tu_peopleWithSeason_33 : decode b_Tu_peopleWithSeason 33 = .ok (.goto (-29), 3) := by decide +kernel
theorem d_Tu_peopleWithSeason_36 : decode b_Tu_peopleWithSeason 36 = .ok (.iload_n 1, 1) := by decide +kernel
theorem d_Tu_peopleWithSeason_37 : decode b_Tu_peopleWithSeason 37 = .ok (.ireturn, 1) := by decide +kernel
theorem d_Tu_cellsTaken_0 : decode b_Tu_cellsTaken 0 = .ok (.iconst 0, 1) := by decide +kernel
theorem d_Tu_cellsTaken_1 : decode b_Tu_cellsTaken 1 = .ok (.istore_n 1, 1) := by decide +kernel
theorem d_Tu_cellsTaken_2 : decode b_Tu_cellsTaken 2 = .ok (.iconst 0, 1) := by decide +kernel
theorem d_Tu_cellsTaken_3 : decode b_Tu_cellsTaken 3 = .ok (.istore_n 2, 1) := by decide +kernel
theorem d_Tu_cellsTaken_4 : decode b_Tu_cellsTaken 4 = .ok (.iload_n 2, 1) := by decide +kernel
theorem d_Tu_cellsTaken_5 : decode b_Tu_cellsTaken 5 = .ok (.aload_n 0, 1) := by decide +kernel
theorem d_Tu_cellsTaken_6 : decode b_Tu_cellsTaken 6 = .ok (.getfield 21, 3) := by decide +kernel
theorem d_Tu_cellsTaken_9 : decode b_Tu_cellsTaken 9 = .ok (.if_icmp .ge 23, 3) := by decide +kernel
theorem d_Tu_cellsTaken_12 : decode b_Tu_cellsTaken 12 = .ok (.iload_n 1, 1) := by decide +kernel
theorem d_Tu_cellsTaken_13 : decode b_Tu_cellsTaken 13 = .ok (.iconst 1, 1) := by decide +kernel
theorem d_Tu_cellsTaken_14 : decode b_Tu_cellsTaken 14 = .ok (.aload_n 0, 1) := by decide +kernel
theorem d_Tu_cellsTaken_15 : decode b_Tu_cellsTaken 15 = .ok (.getfield 30, 3) := by decide +kernel
theorem d_Tu_cellsTaken_18 : decode b_Tu_cellsTaken 18 = .ok (.iload_n 2, 1) := by decide +kernel
theorem d_Tu_cellsTaken_19 : decode b_Tu_cellsTaken 19 = .ok (.aaload, 1) := by decide +kernel
theorem d_Tu_cellsTaken_20 : decode b_Tu_cellsTaken 20 = .ok (.getfield 58, 3) := by decide +kernel
theorem d_Tu_cellsTaken_23 : decode b_Tu_cellsTaken 23 = .ok (.ishl, 1) := by decide +kernel
theorem d_Tu_cellsTaken_24 : decode b_Tu_cellsTaken 24 = .ok (.ior, 1) := by decide +kernel
theorem d_Tu_cellsTaken_25 : decode b_Tu_cellsTaken 25 = .ok (.istore_n 1, 1) := by decide +kernel
theorem d_Tu_cellsTaken_26 : decode b_Tu_cellsTaken 26 = .ok (.iinc 2 1, 3) := by decide +kernel
theorem d_Tu_cellsTaken_29 : decode b_Tu_cellsTaken 29 = .ok (.goto (-25), 3) := by decide +kernel
theorem d_Tu_cellsTaken_32 : decode b_Tu_cellsTaken 32 = .ok (.iload_n 1, 1) := by decide +kernel
theorem d_Tu_cellsTaken_33 : decode b_Tu_cellsTaken 33 = .ok (.ireturn, 1) := by decide +kernel
theorem d_Tu_pairsMeeting_0 : decode b_Tu_pairsMeeting 0 = .ok (.iconst 0, 1) := by decide +kernel
theorem d_Tu_pairsMeeting_1 : decode b_Tu_pairsMeeting 1 = .ok (.istore_n 1, 1) := by decide +kernel
theorem d_Tu_pairsMeeting_2 : decode b_Tu_pairsMeeting 2 = .ok (.iconst 0, 1) := by decide +kernel
theorem d_Tu_pairsMeeting_3 : decode b_Tu_pairsMeeting 3 = .ok (.istore_n 2, 1) := by decide +kernel
theorem d_Tu_pairsMeeting_4 : decode b_Tu_pairsMeeting 4 = .ok (.iload_n 2, 1) := by decide +kernel
theorem d_Tu_pairsMeeting_5 : decode b_Tu_pairsMeeting 5 = .ok (.aload_n 0, 1) := by decide +kernel
theorem d_Tu_pairsMeeting_6 : decode b_Tu_pairsMeeting 6 = .ok (.getfield 21, 3) := by decide +kernel
theorem d_Tu_pairsMeeting_9 : decode b_Tu_pairsMeeting 9 = .ok (.if_icmp .ge 48, 3) := by decide +kernel
theorem d_Tu_pairsMeeting_12 : decode b_Tu_pairsMeeting 12 = .ok (.iload_n 2, 1) := by decide +kernel
theorem d_Tu_pairsMeeting_13 : decode b_Tu_pairsMeeting 13 = .ok (.iconst 1, 1) := by decide +kernel
theorem d_Tu_pairsMeeting_14 : decode b_Tu_pairsMeeting 14 = .ok (.iadd, 1) := by decide +kernel
theorem d_Tu_pairsMeeting_15 : decode b_Tu_pairsMeeting 15 = .ok (.istore_n 3, 1) := by decide +kernel
theorem d_Tu_pairsMeeting_16 : decode b_Tu_pairsMeeting 16 = .ok (.iload_n 3, 1) := by decide +kernel
theorem d_Tu_pairsMeeting_17 : decode b_Tu_pairsMeeting 17 = .ok (.aload_n 0, 1) := by decide +kernel
theorem d_Tu_pairsMeeting_18 : decode b_Tu_pairsMeeting 18 = .ok (.getfield 21, 3) := by decide +kernel
theorem d_Tu_pairsMeeting_21 : decode b_Tu_pairsMeeting 21 = .ok (.if_icmp .ge 30, 3) := by decide +kernel
theorem d_Tu_pairsMeeting_24 : decode b_Tu_pairsMeeting 24 = .ok (.aload_n 0, 1) := by decide +kernel
theorem d_Tu_pairsMeeting_25 : decode b_Tu_pairsMeeting 25 = .ok (.getfield 30, 3) := by decide +kernel
theorem d_Tu_pairsMeeting_28 : decode b_Tu_pairsMeeting 28 = .ok (.iload_n 2, 1) := by decide +kernel
theorem d_Tu_pairsMeeting_29 : decode b_Tu_pairsMeeting 29 = .ok (.aaload, 1) := by decide +kernel
theorem d_Tu_pairsMeeting_30 : decode b_Tu_pairsMeeting 30 = .ok (.aload_n 0, 1) := by decide +kernel
theorem d_Tu_pairsMeeting_31 : decode b_Tu_pairsMeeting 31 = .ok (.getfield 30, 3) := by decide +kernel
theorem d_Tu_pairsMeeting_34 : decode b_Tu_pairsMeeting 34 = .ok (.iload_n 3, 1) := by decide +kernel
theorem d_Tu_pairsMeeting_35 : decode b_Tu_pairsMeeting 35 = .ok (.aaload, 1) := by decide +kernel
theorem d_Tu_pairsMeeting_36 : decode b_Tu_pairsMeeting 36 = .ok (.invokevirtual 106, 3) := by decide +kernel
theorem d_Tu_pairsMeeting_39 : decode b_Tu_pairsMeeting 39 = .ok (.ifCond .eq 6, 3) := by decide +kernel
theorem d_Tu_pairsMeeting_42 : decode b_Tu_pairsMeeting 42 = .ok (.iinc 1 1, 3) := by decide +kernel
theorem d_Tu_pairsMeeting_45 : decode b_Tu_pairsMeeting 45 = .ok (.iinc 3 1, 3) := by decide +kernel
theorem d_Tu_pairsMeeting_48 : decode b_Tu_pairsMeeting 48 = .ok (.goto (-32), 3) := by decide +kernel
theorem d_Tu_pairsMeeting_51 : decode b_Tu_pairsMeeting 51 = .ok (.iinc 2 1, 3) := by decide +kernel
theorem d_Tu_pairsMeeting_54 : decode b_Tu_pairsMeeting 54 = .ok (.goto (-50), 3) := by decide +kernel
theorem d_Tu_pairsMeeting_57 : decode b_Tu_pairsMeeting 57 = .ok (.iload_n 1, 1) := by decide +kernel
theorem d_Tu_pairsMeeting_58 : decode b_Tu_pairsMeeting 58 = .ok (.ireturn, 1) := by decide +kernel
theorem d_Tu_whoMetMost_0 : decode b_Tu_whoMetMost 0 = .ok (.iconst (-1), 1) := by decide +kernel
theorem d_Tu_whoMetMost_1 : decode b_Tu_whoMetMost 1 = .ok (.istore_n 1, 1) := by decide +kernel
theorem d_Tu_whoMetMost_2 : decode b_Tu_whoMetMost 2 = .ok (.iconst 0, 1) := by decide +kernel
theorem d_Tu_whoMetMost_3 : decode b_Tu_whoMetMost 3 = .ok (.istore_n 2, 1) := by decide +kernel
theorem d_Tu_whoMetMost_4 : decode b_Tu_whoMetMost 4 = .ok (.iload_n 2, 1) := by decide +kernel
theorem d_Tu_whoMetMost_5 : decode b_Tu_whoMetMost 5 = .ok (.aload_n 0, 1) := by decide +kernel
theorem d_Tu_whoMetMost_6 : decode b_Tu_whoMetMost 6 = .ok (.getfield 21, 3) := by decide +kernel
theorem d_Tu_whoMetMost_9 : decode b_Tu_whoMetMost 9 = .ok (.if_icmp .ge 36, 3) := by decide +kernel
theorem d_Tu_whoMetMost_12 : decode b_Tu_whoMetMost 12 = .ok (.iload_n 1, 1) := by decide +kernel
theorem d_Tu_whoMetMost_13 : decode b_Tu_whoMetMost 13 = .ok (.ifCond .lt 24, 3) := by decide +kernel
theorem d_Tu_whoMetMost_16 : decode b_Tu_whoMetMost 16 = .ok (.aload_n 0, 1) := by decide +kernel
theorem d_Tu_whoMetMost_17 : decode b_Tu_whoMetMost 17 = .ok (.getfield 30, 3) := by decide +kernel
theorem d_Tu_whoMetMost_20 : decode b_Tu_whoMetMost 20 = .ok (.iload_n 2, 1) := by decide +kernel
theorem d_Tu_whoMetMost_21 : decode b_Tu_whoMetMost 21 = .ok (.aaload, 1) := by decide +kernel
theorem d_Tu_whoMetMost_22 : decode b_Tu_whoMetMost 22 = .ok (.getfield 67, 3) := by decide +kernel
theorem d_Tu_whoMetMost_25 : decode b_Tu_whoMetMost 25 = .ok (.aload_n 0, 1) := by decide +kernel
theorem d_Tu_whoMetMost_26 : decode b_Tu_whoMetMost 26 = .ok (.getfield 30, 3) := by decide +kernel
theorem d_Tu_whoMetMost_29 : decode b_Tu_whoMetMost 29 = .ok (.iload_n 1, 1) := by decide +kernel
theorem d_Tu_whoMetMost_30 : decode b_Tu_whoMetMost 30 = .ok (.aaload, 1) := by decide +kernel
theorem d_Tu_whoMetMost_31 : decode b_Tu_whoMetMost 31 = .ok (.getfield 67, 3) := by decide +kernel
theorem d_Tu_whoMetMost_34 : decode b_Tu_whoMetMost 34 = .ok (.if_icmp .le 5, 3) := by decide +kernel
theorem d_Tu_whoMetMost_37 : decode b_Tu_whoMetMost 37 = .ok (.iload_n 2, 1) := by decide +kernel
theorem d_Tu_whoMetMost_38 : decode b_Tu_whoMetMost 38 = .ok (.istore_n 1, 1) := by decide +kernel
theorem d_Tu_whoMetMost_39 : decode b_Tu_whoMetMost 39 = .ok (.iinc 2 1, 3) := by decide +kernel
theorem d_Tu_whoMetMost_42 : decode b_Tu_whoMetMost 42 = .ok (.goto (-38), 3) := by decide +kernel
theorem d_Tu_whoMetMost_45 : decode b_Tu_whoMetMost 45 = .ok (.iload_n 1, 1) := by decide +kernel
theorem d_Tu_whoMetMost_46 : decode b_Tu_whoMetMost 46 = .ok (.ireturn, 1) := by decide +kernel
theorem d_Tu_cellsToMeetAt_0 : decode b_Tu_cellsToMeetAt 0 = .ok (.iconst 0, 1) := by decide +kernel
theorem d_Tu_cellsToMeetAt_1 : decode b_Tu_cellsToMeetAt 1 = .ok (.istore_n 2, 1) := by decide +kernel
theorem d_Tu_cellsToMeetAt_2 : decode b_Tu_cellsToMeetAt 2 = .ok (.iconst 0, 1) := by decide +kernel
theorem d_Tu_cellsToMeetAt_3 : decode b_Tu_cellsToMeetAt 3 = .ok (.istore_n 3, 1) := by decide +kernel
theorem d_Tu_cellsToMeetAt_4 : decode b_Tu_cellsToMeetAt 4 = .ok (.iload_n 3, 1) := by decide +kernel
theorem d_Tu_cellsToMeetAt_5 : decode b_Tu_cellsToMeetAt 5 = .ok (.bipush 16, 2) := by decide +kernel
theorem d_Tu_cellsToMeetAt_7 : decode b_Tu_cellsToMeetAt 7 = .ok (.if_icmp .ge 21, 3) := by decide +kernel
theorem d_Tu_cellsToMeetAt_10 : decode b_Tu_cellsToMeetAt 10 = .ok (.aload_n 0, 1) := by decide +kernel
theorem d_Tu_cellsToMeetAt_11 : decode b_Tu_cellsToMeetAt 11 = .ok (.iload_n 1, 1) := by decide +kernel
theorem d_Tu_cellsToMeetAt_12 : decode b_Tu_cellsToMeetAt 12 = .ok (.iload_n 3, 1) := by decide +kernel
theorem d_Tu_cellsToMeetAt_13 : decode b_Tu_cellsToMeetAt 13 = .ok (.invokevirtual 130, 3) := by decide +kernel
theorem d_Tu_cellsToMeetAt_16 : decode b_Tu_cellsToMeetAt 16 = .ok (.ifCond .eq 6, 3) := by decide +kernel
theorem d_Tu_cellsToMeetAt_19 : decode b_Tu_cellsToMeetAt 19 = .ok (.iinc 2 1, 3) := by decide +kernel
theorem d_Tu_cellsToMeetAt_22 : decode b_Tu_cellsToMeetAt 22 = .ok (.iinc 3 1, 3) := by decide +kernel
theorem d_Tu_cellsToMeetAt_25 : decode b_Tu_cellsToMeetAt 25 = .ok (.goto (-21), 3) := by decide +kernel
theorem d_Tu_cellsToMeetAt_28 : decode b_Tu_cellsToMeetAt 28 = .ok (.iload_n 2, 1) := by decide +kernel
theorem d_Tu_cellsToMeetAt_29 : decode b_Tu_cellsToMeetAt 29 = .ok (.ireturn, 1) := by decide +kernel
theorem d_Tu_meetsSomebodyAt_0 : decode b_Tu_meetsSomebodyAt 0 = .ok (.iconst 0, 1) := by decide +kernel
theorem d_Tu_meetsSomebodyAt_1 : decode b_Tu_meetsSomebodyAt 1 = .ok (.istore_n 3, 1) := by decide +kernel
theorem d_Tu_meetsSomebodyAt_2 : decode b_Tu_meetsSomebodyAt 2 = .ok (.iload_n 3, 1) := by decide +kernel
theorem d_Tu_meetsSomebodyAt_3 : decode b_Tu_meetsSomebodyAt 3 = .ok (.aload_n 0, 1) := by decide +kernel
theorem d_Tu_meetsSomebodyAt_4 : decode b_Tu_meetsSomebodyAt 4 = .ok (.getfield 21, 3) := by decide +kernel
theorem d_Tu_meetsSomebodyAt_7 : decode b_Tu_meetsSomebodyAt 7 = .ok (.if_icmp .ge 30, 3) := by decide +kernel
theorem d_Tu_meetsSomebodyAt_10 : decode b_Tu_meetsSomebodyAt 10 = .ok (.aload_n 0, 1) := by decide +kernel
theorem d_Tu_meetsSomebodyAt_11 : decode b_Tu_meetsSomebodyAt 11 = .ok (.getfield 30, 3) := by decide +kernel
theorem d_Tu_meetsSomebodyAt_14 : decode b_Tu_meetsSomebodyAt 14 = .ok (.iload_n 1, 1) := by decide +kernel
theorem d_Tu_meetsSomebodyAt_15 : decode b_Tu_meetsSomebodyAt 15 = .ok (.aaload, 1) := by decide +kernel
theorem d_Tu_meetsSomebodyAt_16 : decode b_Tu_meetsSomebodyAt 16 = .ok (.iload_n 2, 1) := by decide +kernel
theorem d_Tu_meetsSomebodyAt_17 : decode b_Tu_meetsSomebodyAt 17 = .ok (.aload_n 0, 1) := by decide +kernel
theorem d_Tu_meetsSomebodyAt_18 : decode b_Tu_meetsSomebodyAt 18 = .ok (.getfield 30, 3) := by decide +kernel
theorem d_Tu_meetsSomebodyAt_21 : decode b_Tu_meetsSomebodyAt 21 = .ok (.iload_n 3, 1) := by decide +kernel
theorem d_Tu_meetsSomebodyAt_22 : decode b_Tu_meetsSomebodyAt 22 = .ok (.aaload, 1) := by decide +kernel
theorem d_Tu_meetsSomebodyAt_23 : decode b_Tu_meetsSomebodyAt 23 = .ok (.invokevirtual 134, 3) := by decide +kernel
theorem d_Tu_meetsSomebodyAt_26 : decode b_Tu_meetsSomebodyAt 26 = .ok (.ifCond .eq 5, 3) := by decide +kernel
theorem d_Tu_meetsSomebodyAt_29 : decode b_Tu_meetsSomebodyAt 29 = .ok (.iconst 1, 1) := by decide +kernel
theorem d_Tu_meetsSomebodyAt_30 : decode b_Tu_meetsSomebodyAt 30 = .ok (.ireturn, 1) := by decide +kernel
theorem d_Tu_meetsSomebodyAt_31 : decode b_Tu_meetsSomebodyAt 31 = .ok (.iinc 3 1, 3) := by decide +kernel
theorem d_Tu_meetsSomebodyAt_34 : decode b_Tu_meetsSomebodyAt 34 = .ok (.goto (-32), 3) := by decide +kernel
theorem d_Tu_meetsSomebodyAt_37 : decode b_Tu_meetsSomebodyAt 37 = .ok (.iconst 0, 1) := by decide +kernel
theorem d_Tu_meetsSomebodyAt_38 : decode b_Tu_meetsSomebodyAt 38 = .ok (.ireturn, 1) := by decide +kernel
theorem d_Tu_spotsTaken_0 : decode b_Tu_spotsTaken 0 = .ok (.iconst 0, 1) := by decide +kernel
theorem d_Tu_spotsTaken_1 : decode b_Tu_spotsTaken 1 = .ok (.istore_n 1, 1) := by decide +kernel
theorem d_Tu_spotsTaken_2 : decode b_Tu_spotsTaken 2 = .ok (.iconst 0, 1) := by decide +kernel
theorem d_Tu_spotsTaken_3 : decode b_Tu_spotsTaken 3 = .ok (.istore_n 2, 1) := by decide +kernel
theorem d_Tu_spotsTaken_4 : decode b_Tu_spotsTaken 4 = .ok (.iload_n 2, 1) := by decide +kernel
theorem d_Tu_spotsTaken_5 : decode b_Tu_spotsTaken 5 = .ok (.bipush 10, 2) := by decide +kernel
theorem d_Tu_spotsTaken_7 : decode b_Tu_spotsTaken 7 = .ok (.if_icmp .ge 21, 3) := by decide +kernel
theorem d_Tu_spotsTaken_10 : decode b_Tu_spotsTaken 10 = .ok (.aload_n 0, 1) := by decide +kernel
theorem d_Tu_spotsTaken_11 : decode b_Tu_spotsTaken 11 = .ok (.getfield 34, 3) := by decide +kernel
theorem d_Tu_spotsTaken_14 : decode b_Tu_spotsTaken 14 = .ok (.iload_n 2, 1) := by decide +kernel
theorem d_Tu_spotsTaken_15 : decode b_Tu_spotsTaken 15 = .ok (.iaload, 1) := by decide +kernel
theorem d_Tu_spotsTaken_16 : decode b_Tu_spotsTaken 16 = .ok (.ifCond .lt 6, 3) := by decide +kernel
theorem d_Tu_spotsTaken_19 : decode b_Tu_spotsTaken 19 = .ok (.iinc 1 1, 3) := by decide +kernel
theorem d_Tu_spotsTaken_22 : decode b_Tu_spotsTaken 22 = .ok (.iinc 2 1, 3) := by decide +kernel
theorem d_Tu_spotsTaken_25 : decode b_Tu_spotsTaken 25 = .ok (.goto (-21), 3) := by decide +kernel
theorem d_Tu_spotsTaken_28 : decode b_Tu_spotsTaken 28 = .ok (.iload_n 1, 1) := by decide +kernel
theorem d_Tu_spotsTaken_29 : decode b_Tu_spotsTaken 29 = .ok (.ireturn, 1) := by decide +kernel
theorem d_Tu_endSeasons_0 : decode b_Tu_endSeasons 0 = .ok (.iconst 0, 1) := by decide +kernel
theorem d_Tu_endSeasons_1 : decode b_Tu_endSeasons 1 = .ok (.istore_n 2, 1) := by decide +kernel
theorem d_Tu_endSeasons_2 : decode b_Tu_endSeasons 2 = .ok (.iload_n 2, 1) := by decide +kernel
theorem d_Tu_endSeasons_3 : decode b_Tu_endSeasons 3 = .ok (.aload_n 0, 1) := by decide +kernel
theorem d_Tu_endSeasons_4 : decode b_Tu_endSeasons 4 = .ok (.getfield 21, 3) := by decide +kernel
theorem d_Tu_endSeasons_7 : decode b_Tu_endSeasons 7 = .ok (.if_icmp .ge 28, 3) := by decide +kernel
theorem d_Tu_endSeasons_10 : decode b_Tu_endSeasons 10 = .ok (.iload_n 1, 1) := by decide +kernel
theorem d_Tu_endSeasons_11 : decode b_Tu_endSeasons 11 = .ok (.iload_n 2, 1) := by decide +kernel
theorem d_Tu_endSeasons_12 : decode b_Tu_endSeasons 12 = .ok (.ishr, 1) := by decide +kernel
theorem d_Tu_endSeasons_13 : decode b_Tu_endSeasons 13 = .ok (.iconst 1, 1) := by decide +kernel
theorem d_Tu_endSeasons_14 : decode b_Tu_endSeasons 14 = .ok (.iand, 1) := by decide +kernel
theorem d_Tu_endSeasons_15 : decode b_Tu_endSeasons 15 = .ok (.iconst 1, 1) := by decide +kernel
theorem d_Tu_endSeasons_16 : decode b_Tu_endSeasons 16 = .ok (.if_icmp .ne 13, 3) := by decide +kernel
theorem d_Tu_endSeasons_19 : decode b_Tu_endSeasons 19 = .ok (.aload_n 0, 1) := by decide +kernel
theorem d_Tu_endSeasons_20 : decode b_Tu_endSeasons 20 = .ok (.getfield 30, 3) := by decide +kernel
theorem d_Tu_endSeasons_23 : decode b_Tu_endSeasons 23 = .ok (.iload_n 2, 1) := by decide +kernel
theorem d_Tu_endSeasons_24 : decode b_Tu_endSeasons 24 = .ok (.aaload, 1) := by decide +kernel
theorem d_Tu_endSeasons_25 : decode b_Tu_endSeasons 25 = .ok (.iconst 0, 1) := by decide +kernel
theorem d_Tu_endSeasons_26 : decode b_Tu_endSeasons 26 = .ok (.putfield 61, 3) := by decide +kernel
theorem d_Tu_endSeasons_29 : decode b_Tu_endSeasons 29 = .ok (.iinc 2 1, 3) := by decide +kernel
theorem d_Tu_endSeasons_32 : decode b_Tu_endSeasons 32 = .ok (.goto (-30), 3) := by decide +kernel
theorem d_Tu_endSeasons_35 : decode b_Tu_endSeasons 35 = .ok (.return_, 1) := by decide +kernel
