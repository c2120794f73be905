theorem d_JS_length_0 : decode b_JS_length 0 = .ok (.aload_n 0, 1) := by decide +kernel
theorem d_JS_length_1 : decode b_JS_length 1 = .ok (.getfield 9, 3) := by decide +kernel
theorem d_JS_length_4 : decode b_JS_length 4 = .ok (.arraylength, 1) := by decide +kernel
theorem d_JS_length_5 : decode b_JS_length 5 = .ok (.aload_n 0, 1) := by decide +kernel
theorem d_JS_length_6 : decode b_JS_length 6 = .ok (.invokevirtual 335, 3) := by decide +kernel
theorem d_JS_length_9 : decode b_JS_length 9 = .ok (.ishr, 1) := by decide +kernel
theorem d_JS_length_10 : decode b_JS_length 10 = .ok (.ireturn, 1) := by decide +kernel
theorem d_JS_charAt_0 : decode b_JS_charAt 0 = .ok (.aload_n 0, 1) := by decide +kernel
theorem d_JS_charAt_1 : decode b_JS_charAt 1 = .ok (.invokevirtual 492, 3) := by decide +kernel
theorem d_JS_charAt_4 : decode b_JS_charAt 4 = .ok (.ifCond .eq 12, 3) := by decide +kernel
theorem d_JS_charAt_7 : decode b_JS_charAt 7 = .ok (.aload_n 0, 1) := by decide +kernel
theorem d_JS_charAt_8 : decode b_JS_charAt 8 = .ok (.getfield 9, 3) := by decide +kernel
theorem d_JS_charAt_11 : decode b_JS_charAt 11 = .ok (.iload_n 1, 1) := by decide +kernel
theorem d_JS_charAt_12 : decode b_JS_charAt 12 = .ok (.invokestatic 495, 3) := by decide +kernel
theorem d_JS_charAt_15 : decode b_JS_charAt 15 = .ok (.ireturn, 1) := by decide +kernel
theorem d_JS_charAt_16 : decode b_JS_charAt 16 = .ok (.aload_n 0, 1) := by decide +kernel
theorem d_JS_charAt_17 : decode b_JS_charAt 17 = .ok (.getfield 9, 3) := by decide +kernel
theorem d_JS_charAt_20 : decode b_JS_charAt 20 = .ok (.iload_n 1, 1) := by decide +kernel
theorem d_JS_charAt_21 : decode b_JS_charAt 21 = .ok (.invokestatic 498, 3) := by decide +kernel
theorem d_JS_charAt_24 : decode b_JS_charAt 24 = .ok (.ireturn, 1) := by decide +kernel
theorem d_JS_coder_0 : decode b_JS_coder 0 = .ok (.getstatic 38, 3) := by decide +kernel
theorem d_JS_coder_3 : decode b_JS_coder 3 = .ok (.ifCond .eq 10, 3) := by decide +kernel
theorem d_JS_coder_6 : decode b_JS_coder 6 = .ok (.aload_n 0, 1) := by decide +kernel
theorem d_JS_coder_7 : decode b_JS_coder 7 = .ok (.getfield 15, 3) := by decide +kernel
theorem d_JS_coder_10 : decode b_JS_coder 10 = .ok (.goto 4, 3) := by decide +kernel
theorem d_JS_coder_13 : decode b_JS_coder 13 = .ok (.iconst 1, 1) := by decide +kernel
theorem d_JS_coder_14 : decode b_JS_coder 14 = .ok (.ireturn, 1) := by decide +kernel
theorem d_JS_isLatin1_0 : decode b_JS_isLatin1 0 = .ok (.getstatic 38, 3) := by decide +kernel
theorem d_JS_isLatin1_3 : decode b_JS_isLatin1 3 = .ok (.ifCond .eq 14, 3) := by decide +kernel
theorem d_JS_isLatin1_6 : decode b_JS_isLatin1 6 = .ok (.aload_n 0, 1) := by decide +kernel
theorem d_JS_isLatin1_7 : decode b_JS_isLatin1 7 = .ok (.getfield 15, 3) := by decide +kernel
theorem d_JS_isLatin1_10 : decode b_JS_isLatin1 10 = .ok (.ifCond .ne 7, 3) := by decide +kernel
theorem d_JS_isLatin1_13 : decode b_JS_isLatin1 13 = .ok (.iconst 1, 1) := by decide +kernel
theorem d_JS_isLatin1_14 : decode b_JS_isLatin1 14 = .ok (.goto 4, 3) := by decide +kernel
theorem d_JS_isLatin1_17 : decode b_JS_isLatin1 17 = .ok (.iconst 0, 1) := by decide +kernel
theorem d_JS_isLatin1_18 : decode b_JS_isLatin1 18 = .ok (.ireturn, 1) := by decide +kernel
theorem d_JS_checkIndex_0 : decode b_JS_checkIndex 0 = .ok (.iload_n 0, 1) := by decide +kernel
theorem d_JS_checkIndex_1 : decode b_JS_checkIndex 1 = .ok (.iload_n 1, 1) := by decide +kernel
theorem d_JS_checkIndex_2 : decode b_JS_checkIndex 2 = .ok (.getstatic 1053, 3) := by decide +kernel
theorem d_JS_checkIndex_5 : decode b_JS_checkIndex 5 = .ok (.invokestatic 1059, 3) := by decide +kernel
theorem d_JS_checkIndex_8 : decode b_JS_checkIndex 8 = .ok (.pop, 1) := by decide +kernel
theorem d_JS_checkIndex_9 : decode b_JS_checkIndex 9 = .ok (.return_, 1) := by decide +kernel
