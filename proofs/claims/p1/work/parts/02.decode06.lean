theorem dX12_told_4 : decode cX12_told 4 = .ok (.iconst 1, 1) := by decide +kernel
theorem dX12_told_5 : decode cX12_told 5 = .ok (.goto 4, 3) := by decide +kernel
theorem dX12_told_8 : decode cX12_told 8 = .ok (.iconst 0, 1) := by decide +kernel
theorem dX12_told_9 : decode cX12_told 9 = .ok (.istore_n 3, 1) := by decide +kernel
theorem dX12_told_10 : decode cX12_told 10 = .ok (.aload_n 0, 1) := by decide +kernel
theorem dX12_told_11 : decode cX12_told 11 = .ok (.getfield 248, 3) := by decide +kernel
theorem dX12_told_14 : decode cX12_told 14 = .ok (.iload_n 3, 1) := by decide +kernel
theorem dX12_told_15 : decode cX12_told 15 = .ok (.baload, 1) := by decide +kernel
theorem dX12_told_16 : decode cX12_told 16 = .ok (.ifCond .ne 5, 3) := by decide +kernel
theorem dX12_told_19 : decode cX12_told 19 = .ok (.iconst (-1), 1) := by decide +kernel
theorem dX12_told_20 : decode cX12_told 20 = .ok (.ireturn, 1) := by decide +kernel
theorem dX11_output_0 : decode cX11_output 0 = .ok (.iload_n 1, 1) := by decide +kernel
theorem dX11_output_1 : decode cX11_output 1 = .ok (.ifCond .eq 10, 3) := by decide +kernel
theorem dX11_output_4 : decode cX11_output 4 = .ok (.aload_n 0, 1) := by decide +kernel
theorem dX11_output_5 : decode cX11_output 5 = .ok (.getfield 116, 3) := by decide +kernel
theorem dX11_output_8 : decode cX11_output 8 = .ok (.goto 7, 3) := by decide +kernel
theorem dX11_output_11 : decode cX11_output 11 = .ok (.aload_n 0, 1) := by decide +kernel
theorem dX11_output_12 : decode cX11_output 12 = .ok (.getfield 107, 3) := by decide +kernel
theorem dX11_output_15 : decode cX11_output 15 = .ok (.astore_n 3, 1) := by decide +kernel
theorem dX11_output_16 : decode cX11_output 16 = .ok (.aload_n 3, 1) := by decide +kernel
theorem dX11_output_17 : decode cX11_output 17 = .ok (.ifnonnull 7, 3) := by decide +kernel
theorem dX11_output_20 : decode cX11_output 20 = .ok (.iconst 0, 1) := by decide +kernel
theorem dX11_output_21 : decode cX11_output 21 = .ok (.goto 8, 3) := by decide +kernel
theorem dX11_output_29 : decode cX11_output 29 = .ok (.ireturn, 1) := by decide +kernel
theorem dX12_output_0 : decode cX12_output 0 = .ok (.iload_n 1, 1) := by decide +kernel
theorem dX12_output_1 : decode cX12_output 1 = .ok (.ifCond .eq 7, 3) := by decide +kernel
theorem dX12_output_4 : decode cX12_output 4 = .ok (.iconst 1, 1) := by decide +kernel
theorem dX12_output_5 : decode cX12_output 5 = .ok (.goto 4, 3) := by decide +kernel
theorem dX12_output_8 : decode cX12_output 8 = .ok (.iconst 0, 1) := by decide +kernel
theorem dX12_output_9 : decode cX12_output 9 = .ok (.istore_n 3, 1) := by decide +kernel
theorem dX12_output_10 : decode cX12_output 10 = .ok (.aload_n 0, 1) := by decide +kernel
theorem dX12_output_11 : decode cX12_output 11 = .ok (.getfield 248, 3) := by decide +kernel
theorem dX12_output_14 : decode cX12_output 14 = .ok (.iload_n 3, 1) := by decide +kernel
theorem dX12_output_15 : decode cX12_output 15 = .ok (.baload, 1) := by decide +kernel
theorem dX12_output_16 : decode cX12_output 16 = .ok (.ifCond .eq 37, 3) := by decide +kernel
theorem dX12_output_53 : decode cX12_output 53 = .ok (.iconst 0, 1) := by decide +kernel
theorem dX12_output_54 : decode cX12_output 54 = .ok (.ireturn, 1) := by decide +kernel
theorem dX11_memory_0 : decode cX11_memory 0 = .ok (.iload_n 1, 1) := by decide +kernel
theorem dX11_memory_1 : decode cX11_memory 1 = .ok (.ifCond .eq 10, 3) := by decide +kernel
theorem dX11_memory_4 : decode cX11_memory 4 = .ok (.aload_n 0, 1) := by decide +kernel
theorem dX11_memory_5 : decode cX11_memory 5 = .ok (.getfield 116, 3) := by decide +kernel
theorem dX11_memory_8 : decode cX11_memory 8 = .ok (.goto 7, 3) := by decide +kernel
theorem dX11_memory_11 : decode cX11_memory 11 = .ok (.aload_n 0, 1) := by decide +kernel
theorem dX11_memory_12 : decode cX11_memory 12 = .ok (.getfield 107, 3) := by decide +kernel
theorem dX11_memory_15 : decode cX11_memory 15 = .ok (.astore_n 3, 1) := by decide +kernel
theorem dX11_memory_16 : decode cX11_memory 16 = .ok (.aload_n 3, 1) := by decide +kernel
theorem dX11_memory_17 : decode cX11_memory 17 = .ok (.ifnonnull 7, 3) := by decide +kernel
theorem dX11_memory_20 : decode cX11_memory 20 = .ok (.iconst 0, 1) := by decide +kernel
theorem dX11_memory_21 : decode cX11_memory 21 = .ok (.goto 8, 3) := by decide +kernel
theorem dX11_memory_29 : decode cX11_memory 29 = .ok (.ireturn, 1) := by decide +kernel
theorem dX12_memory_0 : decode cX12_memory 0 = .ok (.iload_n 1, 1) := by decide +kernel
theorem dX12_memory_1 : decode cX12_memory 1 = .ok (.ifCond .eq 7, 3) := by decide +kernel
theorem dX12_memory_4 : decode cX12_memory 4 = .ok (.iconst 1, 1) := by decide +kernel
theorem dX12_memory_5 : decode cX12_memory 5 = .ok (.goto 4, 3) := by decide +kernel
theorem dX12_memory_8 : decode cX12_memory 8 = .ok (.iconst 0, 1) := by decide +kernel
theorem dX12_memory_9 : decode cX12_memory 9 = .ok (.istore_n 3, 1) := by decide +kernel
theorem dX12_memory_10 : decode cX12_memory 10 = .ok (.aload_n 0, 1) := by decide +kernel
theorem dX12_memory_11 : decode cX12_memory 11 = .ok (.getfield 248, 3) := by decide +kernel
theorem dX12_memory_14 : decode cX12_memory 14 = .ok (.iload_n 3, 1) := by decide +kernel
theorem dX12_memory_15 : decode cX12_memory 15 = .ok (.baload, 1) := by decide +kernel
theorem dX12_memory_16 : decode cX12_memory 16 = .ok (.ifCond .eq 27, 3) := by decide +kernel
theorem dX12_memory_43 : decode cX12_memory 43 = .ok (.iconst 0, 1) := by decide +kernel
theorem dX12_memory_44 : decode cX12_memory 44 = .ok (.ireturn, 1) := by decide +kernel
theorem dX11_count_0 : decode cX11_count 0 = .ok (.iload_n 1, 1) := by decide +kernel
theorem dX11_count_1 : decode cX11_count 1 = .ok (.ifCond .lt 9, 3) := by decide +kernel
theorem dX11_count_4 : decode cX11_count 4 = .ok (.iload_n 1, 1) := by decide +kernel
theorem dX11_count_5 : decode cX11_count 5 = .ok (.bipush 12, 2) := by decide +kernel
theorem dX11_count_7 : decode cX11_count 7 = .ok (.if_icmp .le 5, 3) := by decide +kernel
theorem dX11_count_10 : decode cX11_count 10 = .ok (.iconst (-1), 1) := by decide +kernel
theorem dX11_count_11 : decode cX11_count 11 = .ok (.ireturn, 1) := by decide +kernel
theorem dX11_count_12 : decode cX11_count 12 = .ok (.iload_n 1, 1) := by decide +kernel
theorem dX11_count_13 : decode cX11_count 13 = .ok (.bipush 12, 2) := by decide +kernel
theorem dX11_count_15 : decode cX11_count 15 = .ok (.if_icmp .ne 8, 3) := by decide +kernel
theorem dX11_count_18 : decode cX11_count 18 = .ok (.aload_n 0, 1) := by decide +kernel
theorem dX11_count_19 : decode cX11_count 19 = .ok (.getfield 21, 3) := by decide +kernel
theorem dX11_count_22 : decode cX11_count 22 = .ok (.ireturn, 1) := by decide +kernel
theorem dX11_count_23 : decode cX11_count 23 = .ok (.iload_n 1, 1) := by decide +kernel
theorem dX11_count_24 : decode cX11_count 24 = .ok (.bipush 7, 2) := by decide +kernel
theorem dX11_count_26 : decode cX11_count 26 = .ok (.if_icmp .lt 15, 3) := by decide +kernel
theorem dX11_count_29 : decode cX11_count 29 = .ok (.iload_n 1, 1) := by decide +kernel
theorem dX11_count_30 : decode cX11_count 30 = .ok (.bipush 10, 2) := by decide +kernel
theorem dX11_count_32 : decode cX11_count 32 = .ok (.if_icmp .gt 9, 3) := by decide +kernel
theorem dX11_count_35 : decode cX11_count 35 = .ok (.aload_n 0, 1) := by decide +kernel
theorem dX11_count_36 : decode cX11_count 36 = .ok (.iload_n 1, 1) := by decide +kernel
theorem dX11_count_37 : decode cX11_count 37 = .ok (.invokevirtual 251, 3) := by decide +kernel
theorem dX11_count_40 : decode cX11_count 40 = .ok (.ireturn, 1) := by decide +kernel
theorem dX11_count_41 : decode cX11_count 41 = .ok (.aload_n 0, 1) := by decide +kernel
theorem dX11_count_42 : decode cX11_count 42 = .ok (.getfield 92, 3) := by decide +kernel
theorem dX11_count_45 : decode cX11_count 45 = .ok (.ifnonnull 7, 3) := by decide +kernel
theorem dX11_count_48 : decode cX11_count 48 = .ok (.iconst 0, 1) := by decide +kernel
theorem dX11_count_49 : decode cX11_count 49 = .ok (.goto 11, 3) := by decide +kernel
theorem dX11_count_60 : decode cX11_count 60 = .ok (.ireturn, 1) := by decide +kernel
theorem dX11_countRows_0 : decode cX11_countRows 0 = .ok (.aload_n 0, 1) := by decide +kernel
theorem dX11_countRows_1 : decode cX11_countRows 1 = .ok (.getfield 98, 3) := by decide +kernel
theorem dX11_countRows_4 : decode cX11_countRows 4 = .ok (.ifnonnull 5, 3) := by decide +kernel
theorem dX11_countRows_7 : decode cX11_countRows 7 = .ok (.iconst 0, 1) := by decide +kernel
theorem dX11_countRows_8 : decode cX11_countRows 8 = .ok (.ireturn, 1) := by decide +kernel
theorem dX12_count_0 : decode cX12_count 0 = .ok (.iload_n 1, 1) := by decide +kernel
theorem dX12_count_1 : decode cX12_count 1 = .ok (.ifCond .lt 9, 3) := by decide +kernel
theorem dX12_count_4 : decode cX12_count 4 = .ok (.iload_n 1, 1) := by decide +kernel
theorem dX12_count_5 : decode cX12_count 5 = .ok (.bipush 12, 2) := by decide +kernel
theorem dX12_count_7 : decode cX12_count 7 = .ok (.if_icmp .le 5, 3) := by decide +kernel
theorem dX12_count_10 : decode cX12_count 10 = .ok (.iconst (-1), 1) := by decide +kernel
theorem dX12_count_11 : decode cX12_count 11 = .ok (.ireturn, 1) := by decide +kernel
theorem dX12_count_12 : decode cX12_count 12 = .ok (.iload_n 1, 1) := by decide +kernel
theorem dX12_count_13 : decode cX12_count 13 = .ok (.bipush 12, 2) := by decide +kernel
theorem dX12_count_15 : decode cX12_count 15 = .ok (.if_icmp .ne 8, 3) := by decide +kernel
theorem dX12_count_18 : decode cX12_count 18 = .ok (.aload_n 0, 1) := by decide +kernel
theorem dX12_count_19 : decode cX12_count 19 = .ok (.getfield 285, 3) := by decide +kernel
theorem dX12_count_22 : decode cX12_count 22 = .ok (.ireturn, 1) := by decide +kernel
theorem dX12_count_23 : decode cX12_count 23 = .ok (.aload_n 0, 1) := by decide +kernel
theorem dX12_count_24 : decode cX12_count 24 = .ok (.getfield 359, 3) := by decide +kernel
theorem dX12_count_27 : decode cX12_count 27 = .ok (.ifCond .ne 5, 3) := by decide +kernel
theorem dX12_count_30 : decode cX12_count 30 = .ok (.iconst 0, 1) := by decide +kernel
theorem dX12_count_31 : decode cX12_count 31 = .ok (.ireturn, 1) := by decide +kernel
