theorem d_Pe_init_0 : decode b_Pe_init 0 = .ok (.aload_n 0, 1) := by decide +kernel
theorem d_Pe_init_1 : decode b_Pe_init 1 = .ok (.invokespecial 3, 3) := by decide +kernel
theorem d_Pe_init_4 : decode b_Pe_init 4 = .ok (.return_, 1) := by decide +kernel
theorem d_Pe_begin_0 : decode b_Pe_begin 0 = .ok (.aload_n 0, 1) := by decide +kernel
theorem d_Pe_begin_1 : decode b_Pe_begin 1 = .ok (.iload_n 1, 1) := by decide +kernel
theorem d_Pe_begin_2 : decode b_Pe_begin 2 = .ok (.putfield 9, 3) := by decide +kernel
theorem d_Pe_begin_5 : decode b_Pe_begin 5 = .ok (.aload_n 0, 1) := by decide +kernel
theorem d_Pe_begin_6 : decode b_Pe_begin 6 = .ok (.iload_n 2, 1) := by decide +kernel
theorem d_Pe_begin_7 : decode b_Pe_begin 7 = .ok (.putfield 15, 3) := by decide +kernel
theorem d_Pe_begin_10 : decode b_Pe_begin 10 = .ok (.aload_n 0, 1) := by decide +kernel
theorem d_Pe_begin_11 : decode b_Pe_begin 11 = .ok (.aload_n 0, 1) := by decide +kernel
theorem d_Pe_begin_12 : decode b_Pe_begin 12 = .ok (.invokevirtual 18, 3) := by decide +kernel
theorem d_Pe_begin_15 : decode b_Pe_begin 15 = .ok (.putfield 22, 3) := by decide +kernel
theorem d_Pe_begin_18 : decode b_Pe_begin 18 = .ok (.aload_n 0, 1) := by decide +kernel
theorem d_Pe_begin_19 : decode b_Pe_begin 19 = .ok (.bipush 30, 2) := by decide +kernel
theorem d_Pe_begin_21 : decode b_Pe_begin 21 = .ok (.putfield 25, 3) := by decide +kernel
theorem d_Pe_begin_24 : decode b_Pe_begin 24 = .ok (.aload_n 0, 1) := by decide +kernel
theorem d_Pe_begin_25 : decode b_Pe_begin 25 = .ok (.iconst 0, 1) := by decide +kernel
theorem d_Pe_begin_26 : decode b_Pe_begin 26 = .ok (.putfield 28, 3) := by decide +kernel
theorem d_Pe_begin_29 : decode b_Pe_begin 29 = .ok (.aload_n 0, 1) := by decide +kernel
theorem d_Pe_begin_30 : decode b_Pe_begin 30 = .ok (.iconst 0, 1) := by decide +kernel
theorem d_Pe_begin_31 : decode b_Pe_begin 31 = .ok (.putfield 31, 3) := by decide +kernel
theorem d_Pe_begin_34 : decode b_Pe_begin 34 = .ok (.return_, 1) := by decide +kernel
theorem d_Pe_become_0 : decode b_Pe_become 0 = .ok (.aload_n 0, 1) := by decide +kernel
theorem d_Pe_become_1 : decode b_Pe_become 1 = .ok (.aload_n 1, 1) := by decide +kernel
theorem d_Pe_become_2 : decode b_Pe_become 2 = .ok (.getfield 9, 3) := by decide +kernel
theorem d_Pe_become_5 : decode b_Pe_become 5 = .ok (.putfield 9, 3) := by decide +kernel
theorem d_Pe_become_8 : decode b_Pe_become 8 = .ok (.aload_n 0, 1) := by decide +kernel
theorem d_Pe_become_9 : decode b_Pe_become 9 = .ok (.aload_n 1, 1) := by decide +kernel
theorem d_Pe_become_10 : decode b_Pe_become 10 = .ok (.getfield 15, 3) := by decide +kernel
theorem d_Pe_become_13 : decode b_Pe_become 13 = .ok (.putfield 15, 3) := by decide +kernel
theorem d_Pe_become_16 : decode b_Pe_become 16 = .ok (.aload_n 0, 1) := by decide +kernel
theorem d_Pe_become_17 : decode b_Pe_become 17 = .ok (.aload_n 1, 1) := by decide +kernel
theorem d_Pe_become_18 : decode b_Pe_become 18 = .ok (.getfield 22, 3) := by decide +kernel
theorem d_Pe_become_21 : decode b_Pe_become 21 = .ok (.putfield 22, 3) := by decide +kernel
theorem d_Pe_become_24 : decode b_Pe_become 24 = .ok (.aload_n 0, 1) := by decide +kernel
theorem d_Pe_become_25 : decode b_Pe_become 25 = .ok (.aload_n 1, 1) := by decide +kernel
theorem d_Pe_become_26 : decode b_Pe_become 26 = .ok (.getfield 25, 3) := by decide +kernel
theorem d_Pe_become_29 : decode b_Pe_become 29 = .ok (.putfield 25, 3) := by decide +kernel
theorem d_Pe_become_32 : decode b_Pe_become 32 = .ok (.aload_n 0, 1) := by decide +kernel
theorem d_Pe_become_33 : decode b_Pe_become 33 = .ok (.aload_n 1, 1) := by decide +kernel
theorem d_Pe_become_34 : decode b_Pe_become 34 = .ok (.getfield 28, 3) := by decide +kernel
theorem d_Pe_become_37 : decode b_Pe_become 37 = .ok (.putfield 28, 3) := by decide +kernel
theorem d_Pe_become_40 : decode b_Pe_become 40 = .ok (.aload_n 0, 1) := by decide +kernel
theorem d_Pe_become_41 : decode b_Pe_become 41 = .ok (.aload_n 1, 1) := by decide +kernel
theorem d_Pe_become_42 : decode b_Pe_become 42 = .ok (.getfield 31, 3) := by decide +kernel
theorem d_Pe_become_45 : decode b_Pe_become 45 = .ok (.putfield 31, 3) := by decide +kernel
theorem d_Pe_become_48 : decode b_Pe_become 48 = .ok (.return_, 1) := by decide +kernel
theorem d_Pe_set_0 : decode b_Pe_set 0 = .ok (.iload_n 1, 1) := by decide +kernel
theorem d_Pe_set_1 : decode b_Pe_set 1 = .ok (.tableswitch 87 0 5 #[39, 47, 55, 63, 71, 79], 39) := by decide +kernel
theorem d_Pe_set_40 : decode b_Pe_set 40 = .ok (.aload_n 0, 1) := by decide +kernel
theorem d_Pe_set_41 : decode b_Pe_set 41 = .ok (.iload_n 2, 1) := by decide +kernel
theorem d_Pe_set_42 : decode b_Pe_set 42 = .ok (.putfield 9, 3) := by decide +kernel
theorem d_Pe_set_45 : decode b_Pe_set 45 = .ok (.goto 43, 3) := by decide +kernel
theorem d_Pe_set_48 : decode b_Pe_set 48 = .ok (.aload_n 0, 1) := by decide +kernel
theorem d_Pe_set_49 : decode b_Pe_set 49 = .ok (.iload_n 2, 1) := by decide +kernel
theorem d_Pe_set_50 : decode b_Pe_set 50 = .ok (.putfield 15, 3) := by decide +kernel
theorem d_Pe_set_53 : decode b_Pe_set 53 = .ok (.goto 35, 3) := by decide +kernel
theorem d_Pe_set_56 : decode b_Pe_set 56 = .ok (.aload_n 0, 1) := by decide +kernel
theorem d_Pe_set_57 : decode b_Pe_set 57 = .ok (.iload_n 2, 1) := by decide +kernel
theorem d_Pe_set_58 : decode b_Pe_set 58 = .ok (.putfield 22, 3) := by decide +kernel
theorem d_Pe_set_61 : decode b_Pe_set 61 = .ok (.goto 27, 3) := by decide +kernel
theorem d_Pe_set_64 : decode b_Pe_set 64 = .ok (.aload_n 0, 1) := by decide +kernel
theorem d_Pe_set_65 : decode b_Pe_set 65 = .ok (.iload_n 2, 1) := by decide +kernel
theorem d_Pe_set_66 : decode b_Pe_set 66 = .ok (.putfield 25, 3) := by decide +kernel
theorem d_Pe_set_69 : decode b_Pe_set 69 = .ok (.goto 19, 3) := by decide +kernel
theorem d_Pe_set_72 : decode b_Pe_set 72 = .ok (.aload_n 0, 1) := by decide +kernel
theorem d_Pe_set_73 : decode b_Pe_set 73 = .ok (.iload_n 2, 1) := by decide +kernel
theorem d_Pe_set_74 : decode b_Pe_set 74 = .ok (.putfield 28, 3) := by decide +kernel
theorem d_Pe_set_77 : decode b_Pe_set 77 = .ok (.goto 11, 3) := by decide +kernel
theorem d_Pe_set_80 : decode b_Pe_set 80 = .ok (.aload_n 0, 1) := by decide +kernel
theorem d_Pe_set_81 : decode b_Pe_set 81 = .ok (.iload_n 2, 1) := by decide +kernel
theorem d_Pe_set_82 : decode b_Pe_set 82 = .ok (.putfield 31, 3) := by decide +kernel
theorem d_Pe_set_85 : decode b_Pe_set 85 = .ok (.goto 3, 3) := by decide +kernel
theorem d_Pe_set_88 : decode b_Pe_set 88 = .ok (.return_, 1) := by decide +kernel
theorem d_Pe_lift_0 : decode b_Pe_lift 0 = .ok (.aload_n 0, 1) := by decide +kernel
theorem d_Pe_lift_1 : decode b_Pe_lift 1 = .ok (.getfield 15, 3) := by decide +kernel
theorem d_Pe_lift_4 : decode b_Pe_lift 4 = .ok (.ifCond .ne 7, 3) := by decide +kernel
theorem d_Pe_lift_7 : decode b_Pe_lift 7 = .ok (.iconst 0, 1) := by decide +kernel
theorem d_Pe_lift_8 : decode b_Pe_lift 8 = .ok (.goto 5, 3) := by decide +kernel
theorem d_Pe_lift_11 : decode b_Pe_lift 11 = .ok (.bipush 15, 2) := by decide +kernel
theorem d_Pe_lift_13 : decode b_Pe_lift 13 = .ok (.ireturn, 1) := by decide +kernel
theorem d_Pe_isAbroad_0 : decode b_Pe_isAbroad 0 = .ok (.aload_n 0, 1) := by decide +kernel
theorem d_Pe_isAbroad_1 : decode b_Pe_isAbroad 1 = .ok (.getfield 15, 3) := by decide +kernel
theorem d_Pe_isAbroad_4 : decode b_Pe_isAbroad 4 = .ok (.ifCond .ne 20, 3) := by decide +kernel
theorem d_Pe_isAbroad_7 : decode b_Pe_isAbroad 7 = .ok (.aload_n 0, 1) := by decide +kernel
theorem d_Pe_isAbroad_8 : decode b_Pe_isAbroad 8 = .ok (.getfield 22, 3) := by decide +kernel
theorem d_Pe_isAbroad_11 : decode b_Pe_isAbroad 11 = .ok (.bipush 7, 2) := by decide +kernel
theorem d_Pe_isAbroad_13 : decode b_Pe_isAbroad 13 = .ok (.if_icmp .le 7, 3) := by decide +kernel
theorem d_Pe_isAbroad_16 : decode b_Pe_isAbroad 16 = .ok (.iconst 1, 1) := by decide +kernel
theorem d_Pe_isAbroad_17 : decode b_Pe_isAbroad 17 = .ok (.goto 21, 3) := by decide +kernel
theorem d_Pe_isAbroad_20 : decode b_Pe_isAbroad 20 = .ok (.iconst 0, 1) := by decide +kernel
theorem d_Pe_isAbroad_21 : decode b_Pe_isAbroad 21 = .ok (.goto 17, 3) := by decide +kernel
theorem d_Pe_isAbroad_24 : decode b_Pe_isAbroad 24 = .ok (.aload_n 0, 1) := by decide +kernel
theorem d_Pe_isAbroad_25 : decode b_Pe_isAbroad 25 = .ok (.getfield 22, 3) := by decide +kernel
theorem d_Pe_isAbroad_28 : decode b_Pe_isAbroad 28 = .ok (.bipush 8, 2) := by decide +kernel
theorem d_Pe_isAbroad_30 : decode b_Pe_isAbroad 30 = .ok (.if_icmp .ge 7, 3) := by decide +kernel
theorem d_Pe_isAbroad_33 : decode b_Pe_isAbroad 33 = .ok (.iconst 1, 1) := by decide +kernel
theorem d_Pe_isAbroad_34 : decode b_Pe_isAbroad 34 = .ok (.goto 4, 3) := by decide +kernel
theorem d_Pe_isAbroad_37 : decode b_Pe_isAbroad 37 = .ok (.iconst 0, 1) := by decide +kernel
theorem d_Pe_isAbroad_38 : decode b_Pe_isAbroad 38 = .ok (.ireturn, 1) := by decide +kernel
theorem d_Pe_isA_0 : decode b_Pe_isA 0 = .ok (.aload_n 0, 1) := by decide +kernel
theorem d_Pe_isA_1 : decode b_Pe_isA 1 = .ok (.getfield 9, 3) := by decide +kernel
theorem d_Pe_isA_4 : decode b_Pe_isA 4 = .ok (.istore_n 2, 1) := by decide +kernel
theorem d_Pe_isA_5 : decode b_Pe_isA 5 = .ok (.iconst 0, 1) := by decide +kernel
theorem d_Pe_isA_6 : decode b_Pe_isA 6 = .ok (.istore_n 3, 1) := by decide +kernel
theorem d_Pe_isA_7 : decode b_Pe_isA 7 = .ok (.iload_n 3, 1) := by decide +kernel
theorem d_Pe_isA_8 : decode b_Pe_isA 8 = .ok (.bipush 6, 2) := by decide +kernel
theorem d_Pe_isA_10 : decode b_Pe_isA 10 = .ok (.if_icmp .gt 31, 3) := by decide +kernel
theorem d_Pe_isA_13 : decode b_Pe_isA 13 = .ok (.iload_n 2, 1) := by decide +kernel
theorem d_Pe_isA_14 : decode b_Pe_isA 14 = .ok (.bipush 6, 2) := by decide +kernel
theorem d_Pe_isA_16 : decode b_Pe_isA 16 = .ok (.invokestatic 34, 3) := by decide +kernel
theorem d_Pe_isA_19 : decode b_Pe_isA 19 = .ok (.ifCond .eq 22, 3) := by decide +kernel
theorem d_Pe_isA_22 : decode b_Pe_isA 22 = .ok (.iload_n 2, 1) := by decide +kernel
theorem d_Pe_isA_23 : decode b_Pe_isA 23 = .ok (.iload_n 1, 1) := by decide +kernel
theorem d_Pe_isA_24 : decode b_Pe_isA 24 = .ok (.if_icmp .ne 5, 3) := by decide +kernel
theorem d_Pe_isA_27 : decode b_Pe_isA 27 = .ok (.iconst 1, 1) := by decide +kernel
theorem d_Pe_isA_28 : decode b_Pe_isA 28 = .ok (.ireturn, 1) := by decide +kernel
theorem d_Pe_isA_29 : decode b_Pe_isA 29 = .ok (.getstatic 38, 3) := by decide +kernel
theorem d_Pe_isA_32 : decode b_Pe_isA 32 = .ok (.iload_n 2, 1) := by decide +kernel
theorem d_Pe_isA_33 : decode b_Pe_isA 33 = .ok (.iaload, 1) := by decide +kernel
theorem d_Pe_isA_34 : decode b_Pe_isA 34 = .ok (.istore_n 2, 1) := by decide +kernel
theorem d_Pe_isA_35 : decode b_Pe_isA 35 = .ok (.iinc 3 1, 3) := by decide +kernel
theorem d_Pe_isA_38 : decode b_Pe_isA 38 = .ok (.goto (-31), 3) := by decide +kernel
theorem d_Pe_isA_41 : decode b_Pe_isA 41 = .ok (.iconst 0, 1) := by decide +kernel
theorem d_Pe_isA_42 : decode b_Pe_isA 42 = .ok (.ireturn, 1) := by decide +kernel
theorem d_Pe_steps_0 : decode b_Pe_steps 0 = .ok (.iconst 1, 1) := by decide +kernel
theorem d_Pe_steps_1 : decode b_Pe_steps 1 = .ok (.iconst 3, 1) := by decide +kernel
theorem d_Pe_steps_2 : decode b_Pe_steps 2 = .ok (.aload_n 0, 1) := by decide +kernel
theorem d_Pe_steps_3 : decode b_Pe_steps 3 = .ok (.getfield 28, 3) := by decide +kernel
theorem d_Pe_steps_6 : decode b_Pe_steps 6 = .ok (.isub, 1) := by decide +kernel
theorem d_Pe_steps_7 : decode b_Pe_steps 7 = .ok (.invokestatic 42, 3) := by decide +kernel
theorem d_Pe_steps_10 : decode b_Pe_steps 10 = .ok (.istore_n 2, 1) := by decide +kernel
theorem d_Pe_steps_11 : decode b_Pe_steps 11 = .ok (.iconst 1, 1) := by decide +kernel
theorem d_Pe_steps_12 : decode b_Pe_steps 12 = .ok (.iload_n 2, 1) := by decide +kernel
theorem d_Pe_steps_13 : decode b_Pe_steps 13 = .ok (.iconst 1, 1) := by decide +kernel
theorem d_Pe_steps_14 : decode b_Pe_steps 14 = .ok (.isub, 1) := by decide +kernel
theorem d_Pe_steps_15 : decode b_Pe_steps 15 = .ok (.invokestatic 42, 3) := by decide +kernel
theorem d_Pe_steps_18 : decode b_Pe_steps 18 = .ok (.istore_n 3, 1) := by decide +kernel
theorem d_Pe_steps_19 : decode b_Pe_steps 19 = .ok (.iload_n 2, 1) := by decide +kernel
theorem d_Pe_steps_20 : decode b_Pe_steps 20 = .ok (.iconst 1, 1) := by decide +kernel
theorem d_Pe_steps_21 : decode b_Pe_steps 21 = .ok (.iadd, 1) := by decide +kernel
theorem d_Pe_steps_22 : decode b_Pe_steps 22 = .ok (.istore 4, 2) := by decide +kernel
theorem d_Pe_steps_24 : decode b_Pe_steps 24 = .ok (.aload_n 0, 1) := by decide +kernel
theorem d_Pe_steps_25 : decode b_Pe_steps 25 = .ok (.getfield 9, 3) := by decide +kernel
theorem d_Pe_steps_28 : decode b_Pe_steps 28 = .ok (.tableswitch 62 1 6 #[40, 46, 49, 49, 58, 42], 40) := by decide +kernel
theorem d_Pe_steps_68 : decode b_Pe_steps 68 = .ok (.iload_n 3, 1) := by decide +kernel
theorem d_Pe_steps_69 : decode b_Pe_steps 69 = .ok (.ireturn, 1) := by decide +kernel
theorem d_Pe_steps_70 : decode b_Pe_steps 70 = .ok (.iload_n 3, 1) := by decide +kernel
theorem d_Pe_steps_71 : decode b_Pe_steps 71 = .ok (.iconst 2, 1) := by decide +kernel
theorem d_Pe_steps_72 : decode b_Pe_steps 72 = .ok (.iadd, 1) := by decide +kernel
theorem d_Pe_steps_73 : decode b_Pe_steps 73 = .ok (.ireturn, 1) := by decide +kernel
theorem d_Pe_steps_74 : decode b_Pe_steps 74 = .ok (.iload 4, 2) := by decide +kernel
theorem d_Pe_steps_76 : decode b_Pe_steps 76 = .ok (.ireturn, 1) := by decide +kernel
theorem d_Pe_steps_77 : decode b_Pe_steps 77 = .ok (.iconst 1, 1) := by decide +kernel
theorem d_Pe_steps_78 : decode b_Pe_steps 78 = .ok (.iload 4, 2) := by decide +kernel
theorem d_Pe_steps_80 : decode b_Pe_steps 80 = .ok (.iconst 2, 1) := by decide +kernel
theorem d_Pe_steps_81 : decode b_Pe_steps 81 = .ok (.idiv, 1) := by decide +kernel
theorem d_Pe_steps_82 : decode b_Pe_steps 82 = .ok (.invokestatic 42, 3) := by decide +kernel
theorem d_Pe_steps_85 : decode b_Pe_steps 85 = .ok (.ireturn, 1) := by decide +kernel
theorem d_Pe_steps_86 : decode b_Pe_steps 86 = .ok (.iload_n 1, 1) := by decide +kernel
theorem d_Pe_steps_87 : decode b_Pe_steps 87 = .ok (.iconst 2, 1) := by decide +kernel
theorem d_Pe_steps_88 : decode b_Pe_steps 88 = .ok (.irem, 1) := by decide +kernel
theorem d_Pe_steps_89 : decode b_Pe_steps 89 = .ok (.ireturn, 1) := by decide +kernel
theorem d_Pe_steps_90 : decode b_Pe_steps 90 = .ok (.iload_n 2, 1) := by decide +kernel
theorem d_Pe_steps_91 : decode b_Pe_steps 91 = .ok (.ireturn, 1) := by decide +kernel
theorem d_Pe_crosses_0 : decode b_Pe_crosses 0 = .ok (.aload_n 0, 1) := by decide +kernel
theorem d_Pe_crosses_1 : decode b_Pe_crosses 1 = .ok (.getfield 9, 3) := by decide +kernel
theorem d_Pe_crosses_4 : decode b_Pe_crosses 4 = .ok (.tableswitch 96 2 6 #[50, 60, 72, 94, 36], 36) := by decide +kernel
theorem d_Pe_crosses_40 : decode b_Pe_crosses 40 = .ok (.aload_n 0, 1) := by decide +kernel
theorem d_Pe_crosses_41 : decode b_Pe_crosses 41 = .ok (.getfield 31, 3) := by decide +kernel
theorem d_Pe_crosses_44 : decode b_Pe_crosses 44 = .ok (.iconst 5, 1) := by decide +kernel
theorem d_Pe_crosses_45 : decode b_Pe_crosses 45 = .ok (.if_icmp .lt 7, 3) := by decide +kernel
theorem d_Pe_crosses_48 : decode b_Pe_crosses 48 = .ok (.iconst 1, 1) := by decide +kernel
theorem d_Pe_crosses_49 : decode b_Pe_crosses 49 = .ok (.goto 4, 3) := by decide +kernel
theorem d_Pe_crosses_52 : decode b_Pe_crosses 52 = .ok (.iconst 0, 1) := by decide +kernel
theorem d_Pe_crosses_53 : decode b_Pe_crosses 53 = .ok (.ireturn, 1) := by decide +kernel
theorem d_Pe_crosses_54 : decode b_Pe_crosses 54 = .ok (.iload_n 1, 1) := by decide +kernel
theorem d_Pe_crosses_55 : decode b_Pe_crosses 55 = .ok (.ifCond .ne 7, 3) := by decide +kernel
theorem d_Pe_crosses_58 : decode b_Pe_crosses 58 = .ok (.iconst 1, 1) := by decide +kernel
theorem d_Pe_crosses_59 : decode b_Pe_crosses 59 = .ok (.goto 4, 3) := by decide +kernel
theorem d_Pe_crosses_62 : decode b_Pe_crosses 62 = .ok (.iconst 0, 1) := by decide +kernel
theorem d_Pe_crosses_63 : decode b_Pe_crosses 63 = .ok (.ireturn, 1) := by decide +kernel
theorem d_Pe_crosses_64 : decode b_Pe_crosses 64 = .ok (.iload_n 1, 1) := by decide +kernel
theorem d_Pe_crosses_65 : decode b_Pe_crosses 65 = .ok (.bipush 20, 2) := by decide +kernel
theorem d_Pe_crosses_67 : decode b_Pe_crosses 67 = .ok (.if_icmp .gt 7, 3) := by decide +kernel
theorem d_Pe_crosses_70 : decode b_Pe_crosses 70 = .ok (.iconst 1, 1) := by decide +kernel
theorem d_Pe_crosses_71 : decode b_Pe_crosses 71 = .ok (.goto 4, 3) := by decide +kernel
theorem d_Pe_crosses_74 : decode b_Pe_crosses 74 = .ok (.iconst 0, 1) := by decide +kernel
theorem d_Pe_crosses_75 : decode b_Pe_crosses 75 = .ok (.ireturn, 1) := by decide +kernel
theorem d_Pe_crosses_76 : decode b_Pe_crosses 76 = .ok (.iload_n 1, 1) := by decide +kernel
theorem d_Pe_crosses_77 : decode b_Pe_crosses 77 = .ok (.bipush 20, 2) := by decide +kernel
theorem d_Pe_crosses_79 : decode b_Pe_crosses 79 = .ok (.if_icmp .le 13, 3) := by decide +kernel
theorem d_Pe_crosses_82 : decode b_Pe_crosses 82 = .ok (.aload_n 0, 1) := by decide +kernel
theorem d_Pe_crosses_83 : decode b_Pe_crosses 83 = .ok (.getfield 31, 3) := by decide +kernel
theorem d_Pe_crosses_86 : decode b_Pe_crosses 86 = .ok (.iconst 2, 1) := by decide +kernel
theorem d_Pe_crosses_87 : decode b_Pe_crosses 87 = .ok (.irem, 1) := by decide +kernel
theorem d_Pe_crosses_88 : decode b_Pe_crosses 88 = .ok (.iconst 1, 1) := by decide +kernel
theorem d_Pe_crosses_89 : decode b_Pe_crosses 89 = .ok (.if_icmp .ne 7, 3) := by decide +kernel
theorem d_Pe_crosses_92 : decode b_Pe_crosses 92 = .ok (.iconst 1, 1) := by decide +kernel
theorem d_Pe_crosses_93 : decode b_Pe_crosses 93 = .ok (.goto 4, 3) := by decide +kernel
theorem d_Pe_crosses_96 : decode b_Pe_crosses 96 = .ok (.iconst 0, 1) := by decide +kernel
theorem d_Pe_crosses_97 : decode b_Pe_crosses 97 = .ok (.ireturn, 1) := by decide +kernel
theorem d_Pe_crosses_98 : decode b_Pe_crosses 98 = .ok (.iconst 1, 1) := by decide +kernel
theorem d_Pe_crosses_99 : decode b_Pe_crosses 99 = .ok (.ireturn, 1) := by decide +kernel
theorem d_Pe_crosses_100 : decode b_Pe_crosses 100 = .ok (.iconst 0, 1) := by decide +kernel
theorem d_Pe_crosses_101 : decode b_Pe_crosses 101 = .ok (.ireturn, 1) := by decide +kernel
theorem d_Pe_calms_0 : decode b_Pe_calms 0 = .ok (.iconst 1, 1) := by decide +kernel
theorem d_Pe_calms_1 : decode b_Pe_calms 1 = .ok (.istore_n 1, 1) := by decide +kernel
theorem d_Pe_calms_2 : decode b_Pe_calms 2 = .ok (.iload_n 1, 1) := by decide +kernel
theorem d_Pe_calms_3 : decode b_Pe_calms 3 = .ok (.iconst 1, 1) := by decide +kernel
theorem d_Pe_calms_4 : decode b_Pe_calms 4 = .ok (.iadd, 1) := by decide +kernel
theorem d_Pe_calms_5 : decode b_Pe_calms 5 = .ok (.istore_n 2, 1) := by decide +kernel
theorem d_Pe_calms_6 : decode b_Pe_calms 6 = .ok (.iconst 0, 1) := by decide +kernel
theorem d_Pe_calms_7 : decode b_Pe_calms 7 = .ok (.istore_n 3, 1) := by decide +kernel
theorem d_Pe_calms_8 : decode b_Pe_calms 8 = .ok (.iload_n 3, 1) := by decide +kernel
theorem d_Pe_calms_9 : decode b_Pe_calms 9 = .ok (.iconst 5, 1) := by decide +kernel
theorem d_Pe_calms_10 : decode b_Pe_calms 10 = .ok (.iadd, 1) := by decide +kernel
theorem d_Pe_calms_11 : decode b_Pe_calms 11 = .ok (.istore 4, 2) := by decide +kernel
theorem d_Pe_calms_13 : decode b_Pe_calms 13 = .ok (.aload_n 0, 1) := by decide +kernel
theorem d_Pe_calms_14 : decode b_Pe_calms 14 = .ok (.getfield 9, 3) := by decide +kernel
theorem d_Pe_calms_17 : decode b_Pe_calms 17 = .ok (.tableswitch 60 1 6 #[39, 45, 47, 50, 55, 41], 39) := by decide +kernel
theorem d_Pe_calms_56 : decode b_Pe_calms 56 = .ok (.iload_n 2, 1) := by decide +kernel
theorem d_Pe_calms_57 : decode b_Pe_calms 57 = .ok (.ireturn, 1) := by decide +kernel
theorem d_Pe_calms_58 : decode b_Pe_calms 58 = .ok (.iconst 3, 1) := by decide +kernel
theorem d_Pe_calms_59 : decode b_Pe_calms 59 = .ok (.iload_n 2, 1) := by decide +kernel
theorem d_Pe_calms_60 : decode b_Pe_calms 60 = .ok (.imul, 1) := by decide +kernel
theorem d_Pe_calms_61 : decode b_Pe_calms 61 = .ok (.ireturn, 1) := by decide +kernel
theorem d_Pe_calms_62 : decode b_Pe_calms 62 = .ok (.iload_n 3, 1) := by decide +kernel
theorem d_Pe_calms_63 : decode b_Pe_calms 63 = .ok (.ireturn, 1) := by decide +kernel
theorem d_Pe_calms_64 : decode b_Pe_calms 64 = .ok (.iload 4, 2) := by decide +kernel
theorem d_Pe_calms_66 : decode b_Pe_calms 66 = .ok (.ireturn, 1) := by decide +kernel
theorem d_Pe_calms_67 : decode b_Pe_calms 67 = .ok (.iconst 2, 1) := by decide +kernel
theorem d_Pe_calms_68 : decode b_Pe_calms 68 = .ok (.iload 4, 2) := by decide +kernel
theorem d_Pe_calms_70 : decode b_Pe_calms 70 = .ok (.imul, 1) := by decide +kernel
theorem d_Pe_calms_71 : decode b_Pe_calms 71 = .ok (.ireturn, 1) := by decide +kernel
theorem d_Pe_calms_72 : decode b_Pe_calms 72 = .ok (.iload_n 1, 1) := by decide +kernel
theorem d_Pe_calms_73 : decode b_Pe_calms 73 = .ok (.bipush 9, 2) := by decide +kernel
theorem d_Pe_calms_75 : decode b_Pe_calms 75 = .ok (.iadd, 1) := by decide +kernel
theorem d_Pe_calms_76 : decode b_Pe_calms 76 = .ok (.ireturn, 1) := by decide +kernel
theorem d_Pe_calms_77 : decode b_Pe_calms 77 = .ok (.iload_n 1, 1) := by decide +kernel
theorem d_Pe_calms_78 : decode b_Pe_calms 78 = .ok (.ireturn, 1) := by decide +kernel
theorem d_Pe_tires_0 : decode b_Pe_tires 0 = .ok (.iconst 1, 1) := by decide +kernel
theorem d_Pe_tires_1 : decode b_Pe_tires 1 = .ok (.istore_n 2, 1) := by decide +kernel
theorem d_Pe_tires_2 : decode b_Pe_tires 2 = .ok (.aload_n 0, 1) := by decide +kernel
theorem d_Pe_tires_3 : decode b_Pe_tires 3 = .ok (.getfield 9, 3) := by decide +kernel
theorem d_Pe_tires_6 : decode b_Pe_tires 6 = .ok (.tableswitch 52 2 6 #[46, 46, 46, 50, 34], 34) := by decide +kernel
theorem d_Pe_tires_40 : decode b_Pe_tires 40 = .ok (.iload_n 1, 1) := by decide +kernel
theorem d_Pe_tires_41 : decode b_Pe_tires 41 = .ok (.iconst 3, 1) := by decide +kernel
theorem d_Pe_tires_42 : decode b_Pe_tires 42 = .ok (.irem, 1) := by decide +kernel
theorem d_Pe_tires_43 : decode b_Pe_tires 43 = .ok (.ifCond .ne 7, 3) := by decide +kernel
theorem d_Pe_tires_46 : decode b_Pe_tires 46 = .ok (.iconst 2, 1) := by decide +kernel
theorem d_Pe_tires_47 : decode b_Pe_tires 47 = .ok (.goto 4, 3) := by decide +kernel
theorem d_Pe_tires_50 : decode b_Pe_tires 50 = .ok (.iload_n 2, 1) := by decide +kernel
theorem d_Pe_tires_51 : decode b_Pe_tires 51 = .ok (.ireturn, 1) := by decide +kernel
theorem d_Pe_tires_52 : decode b_Pe_tires 52 = .ok (.iload_n 2, 1) := by decide +kernel
theorem d_Pe_tires_53 : decode b_Pe_tires 53 = .ok (.iconst 1, 1) := by decide +kernel
theorem d_Pe_tires_54 : decode b_Pe_tires 54 = .ok (.iadd, 1) := by decide +kernel
theorem d_Pe_tires_55 : decode b_Pe_tires 55 = .ok (.ireturn, 1) := by decide +kernel
theorem d_Pe_tires_56 : decode b_Pe_tires 56 = .ok (.iconst 0, 1) := by decide +kernel
theorem d_Pe_tires_57 : decode b_Pe_tires 57 = .ok (.ireturn, 1) := by decide +kernel
theorem d_Pe_tires_58 : decode b_Pe_tires 58 = .ok (.iload_n 2, 1) := by decide +kernel
theorem d_Pe_tires_59 : decode b_Pe_tires 59 = .ok (.ireturn, 1) := by decide +kernel
theorem d_Pe_walk_0 : decode b_Pe_walk 0 = .ok (.aload_n 0, 1) := by decide +kernel
theorem d_Pe_walk_1 : decode b_Pe_walk 1 = .ok (.getfield 25, 3) := by decide +kernel
theorem d_Pe_walk_4 : decode b_Pe_walk 4 = .ok (.ifCond .ne 7, 3) := by decide +kernel
theorem d_Pe_walk_7 : decode b_Pe_walk 7 = .ok (.iconst 1, 1) := by decide +kernel
theorem d_Pe_walk_8 : decode b_Pe_walk 8 = .ok (.goto 4, 3) := by decide +kernel
theorem d_Pe_walk_11 : decode b_Pe_walk 11 = .ok (.iconst 0, 1) := by decide +kernel
theorem d_Pe_walk_12 : decode b_Pe_walk 12 = .ok (.istore 4, 2) := by decide +kernel
theorem d_Pe_walk_14 : decode b_Pe_walk 14 = .ok (.aload_n 0, 1) := by decide +kernel
theorem d_Pe_walk_15 : decode b_Pe_walk 15 = .ok (.getfield 22, 3) := by decide +kernel
theorem d_Pe_walk_18 : decode b_Pe_walk 18 = .ok (.istore 5, 2) := by decide +kernel
theorem d_Pe_walk_20 : decode b_Pe_walk 20 = .ok (.iload 4, 2) := by decide +kernel
theorem d_Pe_walk_22 : decode b_Pe_walk 22 = .ok (.ifCond .eq 10, 3) := by decide +kernel
theorem d_Pe_walk_25 : decode b_Pe_walk 25 = .ok (.aload_n 0, 1) := by decide +kernel
theorem d_Pe_walk_26 : decode b_Pe_walk 26 = .ok (.invokevirtual 18, 3) := by decide +kernel
theorem d_Pe_walk_29 : decode b_Pe_walk 29 = .ok (.goto 4, 3) := by decide +kernel
theorem d_Pe_walk_32 : decode b_Pe_walk 32 = .ok (.iload_n 1, 1) := by decide +kernel
theorem d_Pe_walk_33 : decode b_Pe_walk 33 = .ok (.istore 6, 2) := by decide +kernel
theorem d_Pe_walk_35 : decode b_Pe_walk 35 = .ok (.aload_n 0, 1) := by decide +kernel
theorem d_Pe_walk_36 : decode b_Pe_walk 36 = .ok (.iload_n 2, 1) := by decide +kernel
theorem d_Pe_walk_37 : decode b_Pe_walk 37 = .ok (.invokevirtual 48, 3) := by decide +kernel
theorem d_Pe_walk_40 : decode b_Pe_walk 40 = .ok (.istore 7, 2) := by decide +kernel
theorem d_Pe_walk_42 : decode b_Pe_walk 42 = .ok (.aload_n 0, 1) := by decide +kernel
theorem d_Pe_walk_43 : decode b_Pe_walk 43 = .ok (.iload 5, 2) := by decide +kernel
theorem d_Pe_walk_45 : decode b_Pe_walk 45 = .ok (.iload 6, 2) := by decide +kernel
theorem d_Pe_walk_47 : decode b_Pe_walk 47 = .ok (.if_icmp .ge 16, 3) := by decide +kernel
theorem d_Pe_walk_50 : decode b_Pe_walk 50 = .ok (.iload 6, 2) := by decide +kernel
theorem d_Pe_walk_52 : decode b_Pe_walk 52 = .ok (.iload 5, 2) := by decide +kernel
theorem d_Pe_walk_54 : decode b_Pe_walk 54 = .ok (.iload 7, 2) := by decide +kernel
theorem d_Pe_walk_56 : decode b_Pe_walk 56 = .ok (.iadd, 1) := by decide +kernel
theorem d_Pe_walk_57 : decode b_Pe_walk 57 = .ok (.invokestatic 52, 3) := by decide +kernel
theorem d_Pe_walk_60 : decode b_Pe_walk 60 = .ok (.goto 13, 3) := by decide +kernel
theorem d_Pe_walk_63 : decode b_Pe_walk 63 = .ok (.iload 6, 2) := by decide +kernel
theorem d_Pe_walk_65 : decode b_Pe_walk 65 = .ok (.iload 5, 2) := by decide +kernel
theorem d_Pe_walk_67 : decode b_Pe_walk 67 = .ok (.iload 7, 2) := by decide +kernel
theorem d_Pe_walk_69 : decode b_Pe_walk 69 = .ok (.isub, 1) := by decide +kernel
theorem d_Pe_walk_70 : decode b_Pe_walk 70 = .ok (.invokestatic 42, 3) := by decide +kernel
theorem d_Pe_walk_73 : decode b_Pe_walk 73 = .ok (.putfield 22, 3) := by decide +kernel
theorem d_Pe_walk_76 : decode b_Pe_walk 76 = .ok (.iload 4, 2) := by decide +kernel
theorem d_Pe_walk_78 : decode b_Pe_walk 78 = .ok (.ifCond .ne 17, 3) := by decide +kernel
theorem d_Pe_walk_81 : decode b_Pe_walk 81 = .ok (.aload_n 0, 1) := by decide +kernel
theorem d_Pe_walk_82 : decode b_Pe_walk 82 = .ok (.iload_n 3, 1) := by decide +kernel
theorem d_Pe_walk_83 : decode b_Pe_walk 83 = .ok (.invokevirtual 55, 3) := by decide +kernel
theorem d_Pe_walk_86 : decode b_Pe_walk 86 = .ok (.ifCond .ne 9, 3) := by decide +kernel
theorem d_Pe_walk_89 : decode b_Pe_walk 89 = .ok (.aload_n 0, 1) := by decide +kernel
theorem d_Pe_walk_90 : decode b_Pe_walk 90 = .ok (.iload 5, 2) := by decide +kernel
theorem d_Pe_walk_92 : decode b_Pe_walk 92 = .ok (.invokevirtual 59, 3) := by decide +kernel
theorem d_Pe_walk_95 : decode b_Pe_walk 95 = .ok (.return_, 1) := by decide +kernel
theorem d_Pe_stopAheadOfStripe_0 : decode b_Pe_stopAheadOfStripe 0 = .ok (.iload_n 1, 1) := by decide +kernel
theorem d_Pe_stopAheadOfStripe_1 : decode b_Pe_stopAheadOfStripe 1 = .ok (.bipush 7, 2) := by decide +kernel
theorem d_Pe_stopAheadOfStripe_3 : decode b_Pe_stopAheadOfStripe 3 = .ok (.if_icmp .gt 19, 3) := by decide +kernel
theorem d_Pe_stopAheadOfStripe_6 : decode b_Pe_stopAheadOfStripe 6 = .ok (.aload_n 0, 1) := by decide +kernel
theorem d_Pe_stopAheadOfStripe_7 : decode b_Pe_stopAheadOfStripe 7 = .ok (.aload_n 0, 1) := by decide +kernel
theorem d_Pe_stopAheadOfStripe_8 : decode b_Pe_stopAheadOfStripe 8 = .ok (.getfield 22, 3) := by decide +kernel
theorem d_Pe_stopAheadOfStripe_11 : decode b_Pe_stopAheadOfStripe 11 = .ok (.bipush 7, 2) := by decide +kernel
theorem d_Pe_stopAheadOfStripe_13 : decode b_Pe_stopAheadOfStripe 13 = .ok (.invokestatic 52, 3) := by decide +kernel
theorem d_Pe_stopAheadOfStripe_16 : decode b_Pe_stopAheadOfStripe 16 = .ok (.putfield 22, 3) := by decide +kernel
theorem d_Pe_stopAheadOfStripe_19 : decode b_Pe_stopAheadOfStripe 19 = .ok (.goto 16, 3) := by decide +kernel
theorem d_Pe_stopAheadOfStripe_22 : decode b_Pe_stopAheadOfStripe 22 = .ok (.aload_n 0, 1) := by decide +kernel
theorem d_Pe_stopAheadOfStripe_23 : decode b_Pe_stopAheadOfStripe 23 = .ok (.aload_n 0, 1) := by decide +kernel
theorem d_Pe_stopAheadOfStripe_24 : decode b_Pe_stopAheadOfStripe 24 = .ok (.getfield 22, 3) := by decide +kernel
theorem d_Pe_stopAheadOfStripe_27 : decode b_Pe_stopAheadOfStripe 27 = .ok (.bipush 8, 2) := by decide +kernel
theorem d_Pe_stopAheadOfStripe_29 : decode b_Pe_stopAheadOfStripe 29 = .ok (.invokestatic 42, 3) := by decide +kernel
theorem d_Pe_stopAheadOfStripe_32 : decode b_Pe_stopAheadOfStripe 32 = .ok (.putfield 22, 3) := by decide +kernel
theorem d_Pe_stopAheadOfStripe_35 : decode b_Pe_stopAheadOfStripe 35 = .ok (.return_, 1) := by decide +kernel
theorem d_Pe_wouldMeet_0 : decode b_Pe_wouldMeet 0 = .ok (.aload_n 0, 1) := by decide +kernel
theorem d_Pe_wouldMeet_1 : decode b_Pe_wouldMeet 1 = .ok (.aload_n 0, 1) := by decide +kernel
theorem d_Pe_wouldMeet_2 : decode b_Pe_wouldMeet 2 = .ok (.getfield 22, 3) := by decide +kernel
theorem d_Pe_wouldMeet_5 : decode b_Pe_wouldMeet 5 = .ok (.aload_n 1, 1) := by decide +kernel
theorem d_Pe_wouldMeet_6 : decode b_Pe_wouldMeet 6 = .ok (.invokevirtual 63, 3) := by decide +kernel
theorem d_Pe_wouldMeet_9 : decode b_Pe_wouldMeet 9 = .ok (.ireturn, 1) := by decide +kernel
theorem d_Pe_wouldMeetAt_0 : decode b_Pe_wouldMeetAt 0 = .ok (.aload_n 0, 1) := by decide +kernel
theorem d_Pe_wouldMeetAt_1 : decode b_Pe_wouldMeetAt 1 = .ok (.getfield 15, 3) := by decide +kernel
theorem d_Pe_wouldMeetAt_4 : decode b_Pe_wouldMeetAt 4 = .ok (.aload_n 2, 1) := by decide +kernel
theorem d_Pe_wouldMeetAt_5 : decode b_Pe_wouldMeetAt 5 = .ok (.getfield 15, 3) := by decide +kernel
theorem d_Pe_wouldMeetAt_8 : decode b_Pe_wouldMeetAt 8 = .ok (.if_icmp .ne 5, 3) := by decide +kernel
theorem d_Pe_wouldMeetAt_11 : decode b_Pe_wouldMeetAt 11 = .ok (.iconst 0, 1) := by decide +kernel
theorem d_Pe_wouldMeetAt_12 : decode b_Pe_wouldMeetAt 12 = .ok (.ireturn, 1) := by decide +kernel
theorem d_Pe_wouldMeetAt_13 : decode b_Pe_wouldMeetAt 13 = .ok (.iload_n 1, 1) := by decide +kernel
theorem d_Pe_wouldMeetAt_14 : decode b_Pe_wouldMeetAt 14 = .ok (.aload_n 2, 1) := by decide +kernel
theorem d_Pe_wouldMeetAt_15 : decode b_Pe_wouldMeetAt 15 = .ok (.getfield 22, 3) := by decide +kernel
theorem d_Pe_wouldMeetAt_18 : decode b_Pe_wouldMeetAt 18 = .ok (.if_icmp .eq 33, 3) := by decide +kernel
theorem d_Pe_wouldMeetAt_21 : decode b_Pe_wouldMeetAt 21 = .ok (.iload_n 1, 1) := by decide +kernel
theorem d_Pe_wouldMeetAt_22 : decode b_Pe_wouldMeetAt 22 = .ok (.bipush 7, 2) := by decide +kernel
theorem d_Pe_wouldMeetAt_24 : decode b_Pe_wouldMeetAt 24 = .ok (.if_icmp .ne 12, 3) := by decide +kernel
theorem d_Pe_wouldMeetAt_27 : decode b_Pe_wouldMeetAt 27 = .ok (.aload_n 2, 1) := by decide +kernel
theorem d_Pe_wouldMeetAt_28 : decode b_Pe_wouldMeetAt 28 = .ok (.getfield 22, 3) := by decide +kernel
theorem d_Pe_wouldMeetAt_31 : decode b_Pe_wouldMeetAt 31 = .ok (.bipush 8, 2) := by decide +kernel
theorem d_Pe_wouldMeetAt_33 : decode b_Pe_wouldMeetAt 33 = .ok (.if_icmp .eq 18, 3) := by decide +kernel
theorem d_Pe_wouldMeetAt_36 : decode b_Pe_wouldMeetAt 36 = .ok (.iload_n 1, 1) := by decide +kernel
theorem d_Pe_wouldMeetAt_37 : decode b_Pe_wouldMeetAt 37 = .ok (.bipush 8, 2) := by decide +kernel
theorem d_Pe_wouldMeetAt_39 : decode b_Pe_wouldMeetAt 39 = .ok (.if_icmp .ne 16, 3) := by decide +kernel
theorem d_Pe_wouldMeetAt_42 : decode b_Pe_wouldMeetAt 42 = .ok (.aload_n 2, 1) := by decide +kernel
theorem d_Pe_wouldMeetAt_43 : decode b_Pe_wouldMeetAt 43 = .ok (.getfield 22, 3) := by decide +kernel
theorem d_Pe_wouldMeetAt_46 : decode b_Pe_wouldMeetAt 46 = .ok (.bipush 7, 2) := by decide +kernel
theorem d_Pe_wouldMeetAt_48 : decode b_Pe_wouldMeetAt 48 = .ok (.if_icmp .ne 7, 3) := by decide +kernel
theorem d_Pe_wouldMeetAt_51 : decode b_Pe_wouldMeetAt 51 = .ok (.iconst 1, 1) := by decide +kernel
theorem d_Pe_wouldMeetAt_52 : decode b_Pe_wouldMeetAt 52 = .ok (.goto 4, 3) := by decide +kernel
theorem d_Pe_wouldMeetAt_55 : decode b_Pe_wouldMeetAt 55 = .ok (.iconst 0, 1) := by decide +kernel
theorem d_Pe_wouldMeetAt_56 : decode b_Pe_wouldMeetAt 56 = .ok (.ireturn, 1) := by decide +kernel
theorem d_Pe_countMeeting_0 : decode b_Pe_countMeeting 0 = .ok (.aload_n 0, 1) := by decide +kernel
theorem d_Pe_countMeeting_1 : decode b_Pe_countMeeting 1 = .ok (.getstatic 67, 3) := by decide +kernel
theorem d_Pe_countMeeting_4 : decode b_Pe_countMeeting 4 = .ok (.iconst 5, 1) := by decide +kernel
theorem d_Pe_countMeeting_5 : decode b_Pe_countMeeting 5 = .ok (.iaload, 1) := by decide +kernel
theorem d_Pe_countMeeting_6 : decode b_Pe_countMeeting 6 = .ok (.aload_n 0, 1) := by decide +kernel
theorem d_Pe_countMeeting_7 : decode b_Pe_countMeeting 7 = .ok (.getfield 31, 3) := by decide +kernel
theorem d_Pe_countMeeting_10 : decode b_Pe_countMeeting 10 = .ok (.iconst 1, 1) := by decide +kernel
theorem d_Pe_countMeeting_11 : decode b_Pe_countMeeting 11 = .ok (.iadd, 1) := by decide +kernel
theorem d_Pe_countMeeting_12 : decode b_Pe_countMeeting 12 = .ok (.invokestatic 52, 3) := by decide +kernel
theorem d_Pe_countMeeting_15 : decode b_Pe_countMeeting 15 = .ok (.putfield 31, 3) := by decide +kernel
theorem d_Pe_countMeeting_18 : decode b_Pe_countMeeting 18 = .ok (.return_, 1) := by decide +kernel
theorem d_Pe_endDay_0 : decode b_Pe_endDay 0 = .ok (.aload_n 0, 1) := by decide +kernel
theorem d_Pe_endDay_1 : decode b_Pe_endDay 1 = .ok (.getfield 22, 3) := by decide +kernel
theorem d_Pe_endDay_4 : decode b_Pe_endDay 4 = .ok (.aload_n 0, 1) := by decide +kernel
theorem d_Pe_endDay_5 : decode b_Pe_endDay 5 = .ok (.invokevirtual 18, 3) := by decide +kernel
theorem d_Pe_endDay_8 : decode b_Pe_endDay 8 = .ok (.if_icmp .ne 8, 3) := by decide +kernel
theorem d_Pe_endDay_11 : decode b_Pe_endDay 11 = .ok (.aload_n 0, 1) := by decide +kernel
theorem d_Pe_endDay_12 : decode b_Pe_endDay 12 = .ok (.iconst 0, 1) := by decide +kernel
theorem d_Pe_endDay_13 : decode b_Pe_endDay 13 = .ok (.putfield 28, 3) := by decide +kernel
theorem d_Pe_endDay_16 : decode b_Pe_endDay 16 = .ok (.aload_n 0, 1) := by decide +kernel
theorem d_Pe_endDay_17 : decode b_Pe_endDay 17 = .ok (.iconst 0, 1) := by decide +kernel
theorem d_Pe_endDay_18 : decode b_Pe_endDay 18 = .ok (.aload_n 0, 1) := by decide +kernel
theorem d_Pe_endDay_19 : decode b_Pe_endDay 19 = .ok (.getfield 25, 3) := by decide +kernel
theorem d_Pe_endDay_22 : decode b_Pe_endDay 22 = .ok (.aload_n 0, 1) := by decide +kernel
theorem d_Pe_endDay_23 : decode b_Pe_endDay 23 = .ok (.iload_n 1, 1) := by decide +kernel
theorem d_Pe_endDay_24 : decode b_Pe_endDay 24 = .ok (.invokevirtual 70, 3) := by decide +kernel
theorem d_Pe_endDay_27 : decode b_Pe_endDay 27 = .ok (.isub, 1) := by decide +kernel
theorem d_Pe_endDay_28 : decode b_Pe_endDay 28 = .ok (.invokestatic 42, 3) := by decide +kernel
theorem d_Pe_endDay_31 : decode b_Pe_endDay 31 = .ok (.putfield 25, 3) := by decide +kernel
theorem d_Pe_endDay_34 : decode b_Pe_endDay 34 = .ok (.return_, 1) := by decide +kernel
