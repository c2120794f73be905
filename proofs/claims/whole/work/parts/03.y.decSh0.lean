theorem d_Sh_init_0 : decode b_Sh_init 0 = .ok (.aload_n 0, 1) := by decide +kernel
theorem d_Sh_init_1 : decode b_Sh_init 1 = .ok (.invokespecial 3, 3) := by decide +kernel
theorem d_Sh_init_4 : decode b_Sh_init 4 = .ok (.aload_n 0, 1) := by decide +kernel
theorem d_Sh_init_5 : decode b_Sh_init 5 = .ok (.iconst 0, 1) := by decide +kernel
theorem d_Sh_init_6 : decode b_Sh_init 6 = .ok (.putfield 9, 3) := by decide +kernel
theorem d_Sh_init_9 : decode b_Sh_init 9 = .ok (.aload_n 0, 1) := by decide +kernel
theorem d_Sh_init_10 : decode b_Sh_init 10 = .ok (.iconst 0, 1) := by decide +kernel
theorem d_Sh_init_11 : decode b_Sh_init 11 = .ok (.putfield 15, 3) := by decide +kernel
theorem d_Sh_init_14 : decode b_Sh_init 14 = .ok (.aload_n 0, 1) := by decide +kernel
theorem d_Sh_init_15 : decode b_Sh_init 15 = .ok (.bipush 40, 2) := by decide +kernel
theorem d_Sh_init_17 : decode b_Sh_init 17 = .ok (.newarray .int, 2) := by decide +kernel
theorem d_Sh_init_19 : decode b_Sh_init 19 = .ok (.putfield 18, 3) := by decide +kernel
theorem d_Sh_init_22 : decode b_Sh_init 22 = .ok (.return_, 1) := by decide +kernel
theorem d_Sh_isMissing_0 : decode b_Sh_isMissing 0 = .ok (.aload_n 0, 1) := by decide +kernel
theorem d_Sh_isMissing_1 : decode b_Sh_isMissing 1 = .ok (.getfield 9, 3) := by decide +kernel
theorem d_Sh_isMissing_4 : decode b_Sh_isMissing 4 = .ok (.ifCond .ne 7, 3) := by decide +kernel
theorem d_Sh_isMissing_7 : decode b_Sh_isMissing 7 = .ok (.iconst 1, 1) := by decide +kernel
theorem d_Sh_isMissing_8 : decode b_Sh_isMissing 8 = .ok (.goto 4, 3) := by decide +kernel
theorem d_Sh_isMissing_11 : decode b_Sh_isMissing 11 = .ok (.iconst 0, 1) := by decide +kernel
theorem d_Sh_isMissing_12 : decode b_Sh_isMissing 12 = .ok (.ireturn, 1) := by decide +kernel
theorem d_Sh_begin_0 : decode b_Sh_begin 0 = .ok (.aload_n 0, 1) := by decide +kernel
theorem d_Sh_begin_1 : decode b_Sh_begin 1 = .ok (.iload_n 1, 1) := by decide +kernel
theorem d_Sh_begin_2 : decode b_Sh_begin 2 = .ok (.putfield 9, 3) := by decide +kernel
theorem d_Sh_begin_5 : decode b_Sh_begin 5 = .ok (.aload_n 0, 1) := by decide +kernel
theorem d_Sh_begin_6 : decode b_Sh_begin 6 = .ok (.iload_n 1, 1) := by decide +kernel
theorem d_Sh_begin_7 : decode b_Sh_begin 7 = .ok (.ifCond .ne 7, 3) := by decide +kernel
theorem d_Sh_begin_10 : decode b_Sh_begin 10 = .ok (.iconst 0, 1) := by decide +kernel
theorem d_Sh_begin_11 : decode b_Sh_begin 11 = .ok (.goto 4, 3) := by decide +kernel
theorem d_Sh_begin_14 : decode b_Sh_begin 14 = .ok (.iload_n 2, 1) := by decide +kernel
theorem d_Sh_begin_15 : decode b_Sh_begin 15 = .ok (.putfield 15, 3) := by decide +kernel
theorem d_Sh_begin_18 : decode b_Sh_begin 18 = .ok (.iconst 0, 1) := by decide +kernel
theorem d_Sh_begin_19 : decode b_Sh_begin 19 = .ok (.istore_n 3, 1) := by decide +kernel
theorem d_Sh_begin_20 : decode b_Sh_begin 20 = .ok (.iload_n 3, 1) := by decide +kernel
theorem d_Sh_begin_21 : decode b_Sh_begin 21 = .ok (.bipush 40, 2) := by decide +kernel
theorem d_Sh_begin_23 : decode b_Sh_begin 23 = .ok (.if_icmp .ge 16, 3) := by decide +kernel
theorem d_Sh_begin_26 : decode b_Sh_begin 26 = .ok (.aload_n 0, 1) := by decide +kernel
theorem d_Sh_begin_27 : decode b_Sh_begin 27 = .ok (.getfield 18, 3) := by decide +kernel
theorem d_Sh_begin_30 : decode b_Sh_begin 30 = .ok (.iload_n 3, 1) := by decide +kernel
theorem d_Sh_begin_31 : decode b_Sh_begin 31 = .ok (.iconst 0, 1) := by decide +kernel
theorem d_Sh_begin_32 : decode b_Sh_begin 32 = .ok (.iastore, 1) := by decide +kernel
theorem d_Sh_begin_33 : decode b_Sh_begin 33 = .ok (.iinc 3 1, 3) := by decide +kernel
theorem d_Sh_begin_36 : decode b_Sh_begin 36 = .ok (.goto (-16), 3) := by decide +kernel
theorem d_Sh_begin_39 : decode b_Sh_begin 39 = .ok (.return_, 1) := by decide +kernel
theorem d_Sh_put_0 : decode b_Sh_put 0 = .ok (.aload_n 0, 1) := by decide +kernel
theorem d_Sh_put_1 : decode b_Sh_put 1 = .ok (.getfield 9, 3) := by decide +kernel
theorem d_Sh_put_4 : decode b_Sh_put 4 = .ok (.lookupswitch 50 #[(8, 28), (16, 39)], 28) := by decide +kernel
theorem d_Sh_put_32 : decode b_Sh_put 32 = .ok (.aload_n 0, 1) := by decide +kernel
theorem d_Sh_put_33 : decode b_Sh_put 33 = .ok (.getfield 18, 3) := by decide +kernel
theorem d_Sh_put_36 : decode b_Sh_put 36 = .ok (.iload_n 1, 1) := by decide +kernel
theorem d_Sh_put_37 : decode b_Sh_put 37 = .ok (.iload_n 2, 1) := by decide +kernel
theorem d_Sh_put_38 : decode b_Sh_put 38 = .ok (.i2b, 1) := by decide +kernel
theorem d_Sh_put_39 : decode b_Sh_put 39 = .ok (.iastore, 1) := by decide +kernel
theorem d_Sh_put_40 : decode b_Sh_put 40 = .ok (.goto 21, 3) := by decide +kernel
theorem d_Sh_put_43 : decode b_Sh_put 43 = .ok (.aload_n 0, 1) := by decide +kernel
theorem d_Sh_put_44 : decode b_Sh_put 44 = .ok (.getfield 18, 3) := by decide +kernel
theorem d_Sh_put_47 : decode b_Sh_put 47 = .ok (.iload_n 1, 1) := by decide +kernel
theorem d_Sh_put_48 : decode b_Sh_put 48 = .ok (.iload_n 2, 1) := by decide +kernel
theorem d_Sh_put_49 : decode b_Sh_put 49 = .ok (.i2s, 1) := by decide +kernel
theorem d_Sh_put_50 : decode b_Sh_put 50 = .ok (.iastore, 1) := by decide +kernel
theorem d_Sh_put_51 : decode b_Sh_put 51 = .ok (.goto 10, 3) := by decide +kernel
theorem d_Sh_put_54 : decode b_Sh_put 54 = .ok (.aload_n 0, 1) := by decide +kernel
theorem d_Sh_put_55 : decode b_Sh_put 55 = .ok (.getfield 18, 3) := by decide +kernel
theorem d_Sh_put_58 : decode b_Sh_put 58 = .ok (.iload_n 1, 1) := by decide +kernel
theorem d_Sh_put_59 : decode b_Sh_put 59 = .ok (.iload_n 2, 1) := by decide +kernel
theorem d_Sh_put_60 : decode b_Sh_put 60 = .ok (.iastore, 1) := by decide +kernel
theorem d_Sh_put_61 : decode b_Sh_put 61 = .ok (.return_, 1) := by decide +kernel
theorem d_Sh_hasRange_0 : decode b_Sh_hasRange 0 = .ok (.iload_n 1, 1) := by decide +kernel
theorem d_Sh_hasRange_1 : decode b_Sh_hasRange 1 = .ok (.ifCond .lt 29, 3) := by decide +kernel
theorem d_Sh_hasRange_4 : decode b_Sh_hasRange 4 = .ok (.iload_n 2, 1) := by decide +kernel
theorem d_Sh_hasRange_5 : decode b_Sh_hasRange 5 = .ok (.ifCond .lt 25, 3) := by decide +kernel
theorem d_Sh_hasRange_8 : decode b_Sh_hasRange 8 = .ok (.iload_n 1, 1) := by decide +kernel
theorem d_Sh_hasRange_9 : decode b_Sh_hasRange 9 = .ok (.aload_n 0, 1) := by decide +kernel
theorem d_Sh_hasRange_10 : decode b_Sh_hasRange 10 = .ok (.getfield 15, 3) := by decide +kernel
theorem d_Sh_hasRange_13 : decode b_Sh_hasRange 13 = .ok (.if_icmp .gt 17, 3) := by decide +kernel
theorem d_Sh_hasRange_16 : decode b_Sh_hasRange 16 = .ok (.iload_n 2, 1) := by decide +kernel
theorem d_Sh_hasRange_17 : decode b_Sh_hasRange 17 = .ok (.aload_n 0, 1) := by decide +kernel
theorem d_Sh_hasRange_18 : decode b_Sh_hasRange 18 = .ok (.getfield 15, 3) := by decide +kernel
theorem d_Sh_hasRange_21 : decode b_Sh_hasRange 21 = .ok (.iload_n 1, 1) := by decide +kernel
theorem d_Sh_hasRange_22 : decode b_Sh_hasRange 22 = .ok (.isub, 1) := by decide +kernel
theorem d_Sh_hasRange_23 : decode b_Sh_hasRange 23 = .ok (.if_icmp .gt 7, 3) := by decide +kernel
theorem d_Sh_hasRange_26 : decode b_Sh_hasRange 26 = .ok (.iconst 1, 1) := by decide +kernel
theorem d_Sh_hasRange_27 : decode b_Sh_hasRange 27 = .ok (.goto 4, 3) := by decide +kernel
theorem d_Sh_hasRange_30 : decode b_Sh_hasRange 30 = .ok (.iconst 0, 1) := by decide +kernel
theorem d_Sh_hasRange_31 : decode b_Sh_hasRange 31 = .ok (.ireturn, 1) := by decide +kernel
theorem d_Sh_giveSeasons_0 : decode b_Sh_giveSeasons 0 = .ok (.iconst 0, 1) := by decide +kernel
theorem d_Sh_giveSeasons_1 : decode b_Sh_giveSeasons 1 = .ok (.istore_n 2, 1) := by decide +kernel
theorem d_Sh_giveSeasons_2 : decode b_Sh_giveSeasons 2 = .ok (.iload_n 2, 1) := by decide +kernel
theorem d_Sh_giveSeasons_3 : decode b_Sh_giveSeasons 3 = .ok (.aload_n 0, 1) := by decide +kernel
theorem d_Sh_giveSeasons_4 : decode b_Sh_giveSeasons 4 = .ok (.getfield 15, 3) := by decide +kernel
theorem d_Sh_giveSeasons_7 : decode b_Sh_giveSeasons 7 = .ok (.if_icmp .ge 49, 3) := by decide +kernel
theorem d_Sh_giveSeasons_10 : decode b_Sh_giveSeasons 10 = .ok (.aload_n 1, 1) := by decide +kernel
theorem d_Sh_giveSeasons_11 : decode b_Sh_giveSeasons 11 = .ok (.iload_n 2, 1) := by decide +kernel
theorem d_Sh_giveSeasons_12 : decode b_Sh_giveSeasons 12 = .ok (.invokevirtual 22, 3) := by decide +kernel
theorem d_Sh_giveSeasons_15 : decode b_Sh_giveSeasons 15 = .ok (.ifCond .eq 41, 3) := by decide +kernel
theorem d_Sh_giveSeasons_18 : decode b_Sh_giveSeasons 18 = .ok (.aload_n 0, 1) := by decide +kernel
theorem d_Sh_giveSeasons_19 : decode b_Sh_giveSeasons 19 = .ok (.getfield 18, 3) := by decide +kernel
theorem d_Sh_giveSeasons_22 : decode b_Sh_giveSeasons 22 = .ok (.iload_n 2, 1) := by decide +kernel
theorem d_Sh_giveSeasons_23 : decode b_Sh_giveSeasons 23 = .ok (.iaload, 1) := by decide +kernel
theorem d_Sh_giveSeasons_24 : decode b_Sh_giveSeasons 24 = .ok (.getstatic 28, 3) := by decide +kernel
theorem d_Sh_giveSeasons_27 : decode b_Sh_giveSeasons 27 = .ok (.iconst 3, 1) := by decide +kernel
theorem d_Sh_giveSeasons_28 : decode b_Sh_giveSeasons 28 = .ok (.iaload, 1) := by decide +kernel
theorem d_Sh_giveSeasons_29 : decode b_Sh_giveSeasons 29 = .ok (.invokestatic 31, 3) := by decide +kernel
theorem d_Sh_giveSeasons_32 : decode b_Sh_giveSeasons 32 = .ok (.ifCond .eq 24, 3) := by decide +kernel
theorem d_Sh_giveSeasons_35 : decode b_Sh_giveSeasons 35 = .ok (.aload_n 1, 1) := by decide +kernel
theorem d_Sh_giveSeasons_36 : decode b_Sh_giveSeasons 36 = .ok (.getfield 35, 3) := by decide +kernel
theorem d_Sh_giveSeasons_39 : decode b_Sh_giveSeasons 39 = .ok (.iload_n 2, 1) := by decide +kernel
theorem d_Sh_giveSeasons_40 : decode b_Sh_giveSeasons 40 = .ok (.aaload, 1) := by decide +kernel
theorem d_Sh_giveSeasons_41 : decode b_Sh_giveSeasons 41 = .ok (.aload_n 0, 1) := by decide +kernel
theorem d_Sh_giveSeasons_42 : decode b_Sh_giveSeasons 42 = .ok (.getfield 18, 3) := by decide +kernel
theorem d_Sh_giveSeasons_45 : decode b_Sh_giveSeasons 45 = .ok (.iload_n 2, 1) := by decide +kernel
theorem d_Sh_giveSeasons_46 : decode b_Sh_giveSeasons 46 = .ok (.iaload, 1) := by decide +kernel
theorem d_Sh_giveSeasons_47 : decode b_Sh_giveSeasons 47 = .ok (.putfield 39, 3) := by decide +kernel
theorem d_Sh_giveSeasons_50 : decode b_Sh_giveSeasons 50 = .ok (.iinc 2 1, 3) := by decide +kernel
theorem d_Sh_giveSeasons_53 : decode b_Sh_giveSeasons 53 = .ok (.goto (-51), 3) := by decide +kernel
theorem d_Sh_giveSeasons_56 : decode b_Sh_giveSeasons 56 = .ok (.iload_n 2, 1) := by decide +kernel
theorem d_Sh_giveSeasons_57 : decode b_Sh_giveSeasons 57 = .ok (.ireturn, 1) := by decide +kernel
theorem d_Sh_firstWrongCell_0 : decode b_Sh_firstWrongCell 0 = .ok (.iconst 0, 1) := by decide +kernel
theorem d_Sh_firstWrongCell_1 : decode b_Sh_firstWrongCell 1 = .ok (.istore_n 2, 1) := by decide +kernel
theorem d_Sh_firstWrongCell_2 : decode b_Sh_firstWrongCell 2 = .ok (.iload_n 2, 1) := by decide +kernel
theorem d_Sh_firstWrongCell_3 : decode b_Sh_firstWrongCell 3 = .ok (.aload_n 0, 1) := by decide +kernel
theorem d_Sh_firstWrongCell_4 : decode b_Sh_firstWrongCell 4 = .ok (.getfield 15, 3) := by decide +kernel
theorem d_Sh_firstWrongCell_7 : decode b_Sh_firstWrongCell 7 = .ok (.if_icmp .ge 37, 3) := by decide +kernel
theorem d_Sh_firstWrongCell_10 : decode b_Sh_firstWrongCell 10 = .ok (.aload_n 1, 1) := by decide +kernel
theorem d_Sh_firstWrongCell_11 : decode b_Sh_firstWrongCell 11 = .ok (.iload_n 2, 1) := by decide +kernel
theorem d_Sh_firstWrongCell_12 : decode b_Sh_firstWrongCell 12 = .ok (.invokevirtual 22, 3) := by decide +kernel
theorem d_Sh_firstWrongCell_15 : decode b_Sh_firstWrongCell 15 = .ok (.ifCond .eq 21, 3) := by decide +kernel
theorem d_Sh_firstWrongCell_18 : decode b_Sh_firstWrongCell 18 = .ok (.aload_n 1, 1) := by decide +kernel
theorem d_Sh_firstWrongCell_19 : decode b_Sh_firstWrongCell 19 = .ok (.getfield 35, 3) := by decide +kernel
theorem d_Sh_firstWrongCell_22 : decode b_Sh_firstWrongCell 22 = .ok (.iload_n 2, 1) := by decide +kernel
theorem d_Sh_firstWrongCell_23 : decode b_Sh_firstWrongCell 23 = .ok (.aaload, 1) := by decide +kernel
theorem d_Sh_firstWrongCell_24 : decode b_Sh_firstWrongCell 24 = .ok (.getfield 44, 3) := by decide +kernel
theorem d_Sh_firstWrongCell_27 : decode b_Sh_firstWrongCell 27 = .ok (.aload_n 0, 1) := by decide +kernel
theorem d_Sh_firstWrongCell_28 : decode b_Sh_firstWrongCell 28 = .ok (.getfield 18, 3) := by decide +kernel
theorem d_Sh_firstWrongCell_31 : decode b_Sh_firstWrongCell 31 = .ok (.iload_n 2, 1) := by decide +kernel
theorem d_Sh_firstWrongCell_32 : decode b_Sh_firstWrongCell 32 = .ok (.iaload, 1) := by decide +kernel
theorem d_Sh_firstWrongCell_33 : decode b_Sh_firstWrongCell 33 = .ok (.if_icmp .eq 5, 3) := by decide +kernel
theorem d_Sh_firstWrongCell_36 : decode b_Sh_firstWrongCell 36 = .ok (.iload_n 2, 1) := by decide +kernel
theorem d_Sh_firstWrongCell_37 : decode b_Sh_firstWrongCell 37 = .ok (.ireturn, 1) := by decide +kernel
theorem d_Sh_firstWrongCell_38 : decode b_Sh_firstWrongCell 38 = .ok (.iinc 2 1, 3) := by decide +kernel
theorem d_Sh_firstWrongCell_41 : decode b_Sh_firstWrongCell 41 = .ok (.goto (-39), 3) := by decide +kernel
theorem d_Sh_firstWrongCell_44 : decode b_Sh_firstWrongCell 44 = .ok (.iconst (-1), 1) := by decide +kernel
theorem d_Sh_firstWrongCell_45 : decode b_Sh_firstWrongCell 45 = .ok (.ireturn, 1) := by decide +kernel
