theorem dX10_scan_40 : decode cX10_scan 40 = .ok (.ifCond .eq 54, 3) := by decide +kernel
theorem dX10_scan_43 : decode cX10_scan 43 = .ok (.aload_n 0, 1) := by decide +kernel
theorem dX10_scan_44 : decode cX10_scan 44 = .ok (.iload_n 3, 1) := by decide +kernel
theorem dX10_scan_45 : decode cX10_scan 45 = .ok (.invokevirtual 61, 3) := by decide +kernel
theorem dX10_scan_48 : decode cX10_scan 48 = .ok (.istore_n 3, 1) := by decide +kernel
theorem dX10_scan_49 : decode cX10_scan 49 = .ok (.aload_n 0, 1) := by decide +kernel
theorem dX10_scan_50 : decode cX10_scan 50 = .ok (.iload_n 3, 1) := by decide +kernel
theorem dX10_scan_51 : decode cX10_scan 51 = .ok (.invokevirtual 65, 3) := by decide +kernel
theorem dX10_scan_54 : decode cX10_scan 54 = .ok (.istore_n 3, 1) := by decide +kernel
theorem dX10_scan_55 : decode cX10_scan 55 = .ok (.aload_n 0, 1) := by decide +kernel
theorem dX10_scan_56 : decode cX10_scan 56 = .ok (.getfield 14, 3) := by decide +kernel
theorem dX10_scan_59 : decode cX10_scan 59 = .ok (.iload 5, 2) := by decide +kernel
theorem dX10_scan_61 : decode cX10_scan 61 = .ok (.iconst 0, 1) := by decide +kernel
theorem dX10_scan_62 : decode cX10_scan 62 = .ok (.invokevirtual 48, 3) := by decide +kernel
theorem dX10_scan_65 : decode cX10_scan 65 = .ok (.istore 6, 2) := by decide +kernel
theorem dX10_scan_67 : decode cX10_scan 67 = .ok (.iload 6, 2) := by decide +kernel
theorem dX10_scan_69 : decode cX10_scan 69 = .ok (.bipush 37, 2) := by decide +kernel
theorem dX10_scan_71 : decode cX10_scan 71 = .ok (.if_icmp .eq 14, 3) := by decide +kernel
theorem dX10_scan_85 : decode cX10_scan 85 = .ok (.iconst 0, 1) := by decide +kernel
theorem dX10_scan_86 : decode cX10_scan 86 = .ok (.istore 4, 2) := by decide +kernel
theorem dX10_scan_88 : decode cX10_scan 88 = .ok (.iinc 5 1, 3) := by decide +kernel
theorem dX10_scan_91 : decode cX10_scan 91 = .ok (.goto (-61), 3) := by decide +kernel
theorem dX10_scan_94 : decode cX10_scan 94 = .ok (.return_, 1) := by decide +kernel
theorem dX9_cut_0 : decode cX9_cut 0 = .ok (.aload_n 0, 1) := by decide +kernel
theorem dX9_cut_1 : decode cX9_cut 1 = .ok (.iconst 0, 1) := by decide +kernel
theorem dX9_cut_2 : decode cX9_cut 2 = .ok (.putfield 28, 3) := by decide +kernel
theorem dX9_cut_5 : decode cX9_cut 5 = .ok (.return_, 1) := by decide +kernel
theorem dX10_skipBlanks_0 : decode cX10_skipBlanks 0 = .ok (.iload_n 1, 1) := by decide +kernel
theorem dX10_skipBlanks_1 : decode cX10_skipBlanks 1 = .ok (.istore_n 2, 1) := by decide +kernel
theorem dX10_skipBlanks_2 : decode cX10_skipBlanks 2 = .ok (.iload_n 2, 1) := by decide +kernel
theorem dX10_skipBlanks_3 : decode cX10_skipBlanks 3 = .ok (.aload_n 0, 1) := by decide +kernel
theorem dX10_skipBlanks_4 : decode cX10_skipBlanks 4 = .ok (.getfield 56, 3) := by decide +kernel
theorem dX10_skipBlanks_7 : decode cX10_skipBlanks 7 = .ok (.if_icmp .ge 20, 3) := by decide +kernel
theorem dX10_skipBlanks_27 : decode cX10_skipBlanks 27 = .ok (.iload_n 2, 1) := by decide +kernel
theorem dX10_skipBlanks_28 : decode cX10_skipBlanks 28 = .ok (.ireturn, 1) := by decide +kernel
theorem dX10_scanToken_0 : decode cX10_scanToken 0 = .ok (.aload_n 0, 1) := by decide +kernel
theorem dX10_scanToken_1 : decode cX10_scanToken 1 = .ok (.iload_n 1, 1) := by decide +kernel
theorem dX10_scanToken_2 : decode cX10_scanToken 2 = .ok (.invokevirtual 68, 3) := by decide +kernel
theorem dX10_scanToken_5 : decode cX10_scanToken 5 = .ok (.istore_n 2, 1) := by decide +kernel
theorem dX10_scanToken_6 : decode cX10_scanToken 6 = .ok (.iload_n 2, 1) := by decide +kernel
theorem dX10_scanToken_7 : decode cX10_scanToken 7 = .ok (.invokestatic 75, 3) := by decide +kernel
theorem dX10_scanToken_10 : decode cX10_scanToken 10 = .ok (.ifCond .eq 9, 3) := by decide +kernel
theorem dX10_scanToken_19 : decode cX10_scanToken 19 = .ok (.iload_n 2, 1) := by decide +kernel
theorem dX10_scanToken_20 : decode cX10_scanToken 20 = .ok (.invokestatic 81, 3) := by decide +kernel
theorem dX10_scanToken_23 : decode cX10_scanToken 23 = .ok (.ifCond .ne 9, 3) := by decide +kernel
theorem dX10_scanToken_26 : decode cX10_scanToken 26 = .ok (.iload_n 2, 1) := by decide +kernel
theorem dX10_scanToken_27 : decode cX10_scanToken 27 = .ok (.bipush 45, 2) := by decide +kernel
theorem dX10_scanToken_29 : decode cX10_scanToken 29 = .ok (.if_icmp .ne 9, 3) := by decide +kernel
theorem dX10_scanToken_38 : decode cX10_scanToken 38 = .ok (.aload_n 0, 1) := by decide +kernel
theorem dX10_scanToken_39 : decode cX10_scanToken 39 = .ok (.iload_n 2, 1) := by decide +kernel
theorem dX10_scanToken_40 : decode cX10_scanToken 40 = .ok (.iconst (-1), 1) := by decide +kernel
theorem dX10_scanToken_41 : decode cX10_scanToken 41 = .ok (.if_icmp .ne 8, 3) := by decide +kernel
theorem dX10_scanToken_44 : decode cX10_scanToken 44 = .ok (.bipush 37, 2) := by decide +kernel
theorem dX10_scanToken_46 : decode cX10_scanToken 46 = .ok (.goto 7, 3) := by decide +kernel
theorem dX10_scanToken_53 : decode cX10_scanToken 53 = .ok (.iload_n 1, 1) := by decide +kernel
theorem dX10_scanToken_54 : decode cX10_scanToken 54 = .ok (.iconst 0, 1) := by decide +kernel
theorem dX10_scanToken_55 : decode cX10_scanToken 55 = .ok (.lconst 0, 1) := by decide +kernel
theorem dX10_scanToken_56 : decode cX10_scanToken 56 = .ok (.invokevirtual 90, 3) := by decide +kernel
theorem dX10_scanToken_59 : decode cX10_scanToken 59 = .ok (.iload_n 1, 1) := by decide +kernel
theorem dX10_scanToken_60 : decode cX10_scanToken 60 = .ok (.iconst 1, 1) := by decide +kernel
theorem dX10_scanToken_61 : decode cX10_scanToken 61 = .ok (.iadd, 1) := by decide +kernel
theorem dX10_scanToken_62 : decode cX10_scanToken 62 = .ok (.ireturn, 1) := by decide +kernel
theorem dX10_byteAt_0 : decode cX10_byteAt 0 = .ok (.aload_n 0, 1) := by decide +kernel
theorem dX10_byteAt_1 : decode cX10_byteAt 1 = .ok (.getfield 52, 3) := by decide +kernel
theorem dX10_byteAt_4 : decode cX10_byteAt 4 = .ok (.ifnull 24, 3) := by decide +kernel
theorem dX10_byteAt_7 : decode cX10_byteAt 7 = .ok (.iload_n 1, 1) := by decide +kernel
theorem dX10_byteAt_8 : decode cX10_byteAt 8 = .ok (.ifCond .lt 20, 3) := by decide +kernel
theorem dX10_byteAt_11 : decode cX10_byteAt 11 = .ok (.iload_n 1, 1) := by decide +kernel
theorem dX10_byteAt_12 : decode cX10_byteAt 12 = .ok (.aload_n 0, 1) := by decide +kernel
theorem dX10_byteAt_13 : decode cX10_byteAt 13 = .ok (.getfield 56, 3) := by decide +kernel
theorem dX10_byteAt_16 : decode cX10_byteAt 16 = .ok (.if_icmp .ge 12, 3) := by decide +kernel
theorem dX10_byteAt_28 : decode cX10_byteAt 28 = .ok (.iconst (-1), 1) := by decide +kernel
theorem dX10_byteAt_29 : decode cX10_byteAt 29 = .ok (.ireturn, 1) := by decide +kernel
theorem dX10_isLetter_0 : decode cX10_isLetter 0 = .ok (.iload_n 0, 1) := by decide +kernel
theorem dX10_isLetter_1 : decode cX10_isLetter 1 = .ok (.bipush 97, 2) := by decide +kernel
theorem dX10_isLetter_3 : decode cX10_isLetter 3 = .ok (.if_icmp .lt 13, 3) := by decide +kernel
theorem dX10_isLetter_16 : decode cX10_isLetter 16 = .ok (.iconst 0, 1) := by decide +kernel
theorem dX10_isLetter_17 : decode cX10_isLetter 17 = .ok (.ireturn, 1) := by decide +kernel
theorem dX10_isDigit_0 : decode cX10_isDigit 0 = .ok (.iload_n 0, 1) := by decide +kernel
theorem dX10_isDigit_1 : decode cX10_isDigit 1 = .ok (.bipush 48, 2) := by decide +kernel
theorem dX10_isDigit_3 : decode cX10_isDigit 3 = .ok (.if_icmp .lt 13, 3) := by decide +kernel
theorem dX10_isDigit_16 : decode cX10_isDigit 16 = .ok (.iconst 0, 1) := by decide +kernel
theorem dX10_isDigit_17 : decode cX10_isDigit 17 = .ok (.ireturn, 1) := by decide +kernel
theorem dX10_keep_0 : decode cX10_keep 0 = .ok (.aload_n 0, 1) := by decide +kernel
theorem dX10_keep_1 : decode cX10_keep 1 = .ok (.getfield 14, 3) := by decide +kernel
theorem dX10_keep_4 : decode cX10_keep 4 = .ok (.invokevirtual 94, 3) := by decide +kernel
theorem dX10_keep_7 : decode cX10_keep 7 = .ok (.istore 6, 2) := by decide +kernel
theorem dX10_keep_9 : decode cX10_keep 9 = .ok (.iload 6, 2) := by decide +kernel
theorem dX10_keep_11 : decode cX10_keep 11 = .ok (.ifCond .lt 55, 3) := by decide +kernel
theorem dX10_keep_14 : decode cX10_keep 14 = .ok (.iload 6, 2) := by decide +kernel
theorem dX10_keep_16 : decode cX10_keep 16 = .ok (.aload_n 0, 1) := by decide +kernel
theorem dX10_keep_17 : decode cX10_keep 17 = .ok (.getfield 20, 3) := by decide +kernel
theorem dX10_keep_20 : decode cX10_keep 20 = .ok (.arraylength, 1) := by decide +kernel
theorem dX10_keep_21 : decode cX10_keep 21 = .ok (.if_icmp .ge 45, 3) := by decide +kernel
theorem dX10_keep_24 : decode cX10_keep 24 = .ok (.aload_n 0, 1) := by decide +kernel
theorem dX10_keep_25 : decode cX10_keep 25 = .ok (.getfield 14, 3) := by decide +kernel
theorem dX10_keep_28 : decode cX10_keep 28 = .ok (.iload 6, 2) := by decide +kernel
theorem dX10_keep_30 : decode cX10_keep 30 = .ok (.iconst 0, 1) := by decide +kernel
theorem dX10_keep_31 : decode cX10_keep 31 = .ok (.iload_n 1, 1) := by decide +kernel
theorem dX10_keep_32 : decode cX10_keep 32 = .ok (.invokevirtual 97, 3) := by decide +kernel
theorem dX10_keep_35 : decode cX10_keep 35 = .ok (.aload_n 0, 1) := by decide +kernel
theorem dX10_keep_36 : decode cX10_keep 36 = .ok (.getfield 14, 3) := by decide +kernel
theorem dX10_keep_39 : decode cX10_keep 39 = .ok (.iload 6, 2) := by decide +kernel
theorem dX10_keep_41 : decode cX10_keep 41 = .ok (.iconst 1, 1) := by decide +kernel
theorem dX10_keep_42 : decode cX10_keep 42 = .ok (.iload_n 2, 1) := by decide +kernel
theorem dX10_keep_43 : decode cX10_keep 43 = .ok (.invokevirtual 97, 3) := by decide +kernel
theorem dX10_keep_46 : decode cX10_keep 46 = .ok (.aload_n 0, 1) := by decide +kernel
theorem dX10_keep_47 : decode cX10_keep 47 = .ok (.getfield 14, 3) := by decide +kernel
theorem dX10_keep_50 : decode cX10_keep 50 = .ok (.iload 6, 2) := by decide +kernel
theorem dX10_keep_52 : decode cX10_keep 52 = .ok (.iconst 2, 1) := by decide +kernel
theorem dX10_keep_53 : decode cX10_keep 53 = .ok (.iload_n 3, 1) := by decide +kernel
theorem dX10_keep_54 : decode cX10_keep 54 = .ok (.invokevirtual 97, 3) := by decide +kernel
theorem dX10_keep_57 : decode cX10_keep 57 = .ok (.aload_n 0, 1) := by decide +kernel
theorem dX10_keep_58 : decode cX10_keep 58 = .ok (.getfield 20, 3) := by decide +kernel
theorem dX10_keep_61 : decode cX10_keep 61 = .ok (.iload 6, 2) := by decide +kernel
theorem dX10_keep_63 : decode cX10_keep 63 = .ok (.lload 4, 2) := by decide +kernel
theorem dX10_keep_65 : decode cX10_keep 65 = .ok (.lastore, 1) := by decide +kernel
theorem dX10_keep_66 : decode cX10_keep 66 = .ok (.return_, 1) := by decide +kernel
theorem dX9_add_0 : decode cX9_add 0 = .ok (.aload_n 0, 1) := by decide +kernel
theorem dX9_add_1 : decode cX9_add 1 = .ok (.getfield 28, 3) := by decide +kernel
theorem dX9_add_4 : decode cX9_add 4 = .ok (.aload_n 0, 1) := by decide +kernel
theorem dX9_add_5 : decode cX9_add 5 = .ok (.getfield 21, 3) := by decide +kernel
theorem dX9_add_8 : decode cX9_add 8 = .ok (.if_icmp .lt 5, 3) := by decide +kernel
theorem dX9_add_13 : decode cX9_add 13 = .ok (.aload_n 0, 1) := by decide +kernel
theorem dX9_add_14 : decode cX9_add 14 = .ok (.getfield 24, 3) := by decide +kernel
theorem dX9_add_17 : decode cX9_add 17 = .ok (.aload_n 0, 1) := by decide +kernel
theorem dX9_add_18 : decode cX9_add 18 = .ok (.getfield 28, 3) := by decide +kernel
theorem dX9_add_21 : decode cX9_add 21 = .ok (.aload_n 0, 1) := by decide +kernel
theorem dX9_add_22 : decode cX9_add 22 = .ok (.getfield 15, 3) := by decide +kernel
theorem dX9_add_25 : decode cX9_add 25 = .ok (.imul, 1) := by decide +kernel
theorem dX9_add_26 : decode cX9_add 26 = .ok (.aload_n 0, 1) := by decide +kernel
theorem dX9_add_27 : decode cX9_add 27 = .ok (.getfield 28, 3) := by decide +kernel
theorem dX9_add_30 : decode cX9_add 30 = .ok (.iconst 1, 1) := by decide +kernel
theorem dX9_add_31 : decode cX9_add 31 = .ok (.iadd, 1) := by decide +kernel
theorem dX9_add_32 : decode cX9_add 32 = .ok (.aload_n 0, 1) := by decide +kernel
theorem dX9_add_33 : decode cX9_add 33 = .ok (.getfield 15, 3) := by decide +kernel
theorem dX9_add_36 : decode cX9_add 36 = .ok (.imul, 1) := by decide +kernel
theorem dX9_add_37 : decode cX9_add 37 = .ok (.iconst (-1), 1) := by decide +kernel
theorem dX9_add_38 : decode cX9_add 38 = .ok (.invokestatic 31, 3) := by decide +kernel
theorem dX9_add_41 : decode cX9_add 41 = .ok (.aload_n 0, 1) := by decide +kernel
theorem dX9_add_42 : decode cX9_add 42 = .ok (.dup, 1) := by decide +kernel
theorem dX9_add_43 : decode cX9_add 43 = .ok (.getfield 28, 3) := by decide +kernel
theorem dX9_add_46 : decode cX9_add 46 = .ok (.iconst 1, 1) := by decide +kernel
theorem dX9_add_47 : decode cX9_add 47 = .ok (.iadd, 1) := by decide +kernel
theorem dX9_add_48 : decode cX9_add 48 = .ok (.putfield 28, 3) := by decide +kernel
theorem dX9_add_51 : decode cX9_add 51 = .ok (.aload_n 0, 1) := by decide +kernel
theorem dX9_add_52 : decode cX9_add 52 = .ok (.getfield 28, 3) := by decide +kernel
theorem dX9_add_55 : decode cX9_add 55 = .ok (.iconst 1, 1) := by decide +kernel
theorem dX9_add_56 : decode cX9_add 56 = .ok (.isub, 1) := by decide +kernel
theorem dX9_add_57 : decode cX9_add 57 = .ok (.ireturn, 1) := by decide +kernel
theorem dJ7_fill_fda19_0 : decode cJ7_fill_fda19 0 = .ok (.aload_n 0, 1) := by decide +kernel
theorem dJ7_fill_fda19_1 : decode cJ7_fill_fda19 1 = .ok (.arraylength, 1) := by decide +kernel
theorem dJ7_fill_fda19_2 : decode cJ7_fill_fda19 2 = .ok (.iload_n 1, 1) := by decide +kernel
theorem dJ7_fill_fda19_3 : decode cJ7_fill_fda19 3 = .ok (.iload_n 2, 1) := by decide +kernel
theorem dJ7_fill_fda19_4 : decode cJ7_fill_fda19 4 = .ok (.invokestatic 13, 3) := by decide +kernel
theorem dJ7_fill_fda19_7 : decode cJ7_fill_fda19 7 = .ok (.iload_n 1, 1) := by decide +kernel
theorem dJ7_fill_fda19_8 : decode cJ7_fill_fda19 8 = .ok (.istore 4, 2) := by decide +kernel
theorem dJ7_fill_fda19_10 : decode cJ7_fill_fda19 10 = .ok (.iload 4, 2) := by decide +kernel
theorem dJ7_fill_fda19_12 : decode cJ7_fill_fda19 12 = .ok (.iload_n 2, 1) := by decide +kernel
theorem dJ7_fill_fda19_13 : decode cJ7_fill_fda19 13 = .ok (.if_icmp .ge 14, 3) := by decide +kernel
theorem dJ7_fill_fda19_16 : decode cJ7_fill_fda19 16 = .ok (.aload_n 0, 1) := by decide +kernel
theorem dJ7_fill_fda19_17 : decode cJ7_fill_fda19 17 = .ok (.iload 4, 2) := by decide +kernel
theorem dJ7_fill_fda19_19 : decode cJ7_fill_fda19 19 = .ok (.iload_n 3, 1) := by decide +kernel
theorem dJ7_fill_fda19_20 : decode cJ7_fill_fda19 20 = .ok (.iastore, 1) := by decide +kernel
theorem dJ7_fill_fda19_21 : decode cJ7_fill_fda19 21 = .ok (.iinc 4 1, 3) := by decide +kernel
theorem dJ7_fill_fda19_24 : decode cJ7_fill_fda19 24 = .ok (.goto (-14), 3) := by decide +kernel
theorem dJ7_fill_fda19_27 : decode cJ7_fill_fda19 27 = .ok (.return_, 1) := by decide +kernel
theorem dJ7_rangeCheck_23922_0 : decode cJ7_rangeCheck_23922 0 = .ok (.iload_n 1, 1) := by decide +kernel
theorem dJ7_rangeCheck_23922_1 : decode cJ7_rangeCheck_23922 1 = .ok (.iload_n 2, 1) := by decide +kernel
theorem dJ7_rangeCheck_23922_2 : decode cJ7_rangeCheck_23922 2 = .ok (.if_icmp .le 44, 3) := by decide +kernel
theorem dJ7_rangeCheck_23922_46 : decode cJ7_rangeCheck_23922 46 = .ok (.iload_n 1, 1) := by decide +kernel
theorem dJ7_rangeCheck_23922_47 : decode cJ7_rangeCheck_23922 47 = .ok (.ifCond .ge 12, 3) := by decide +kernel
theorem dJ7_rangeCheck_23922_59 : decode cJ7_rangeCheck_23922 59 = .ok (.iload_n 2, 1) := by decide +kernel
theorem dJ7_rangeCheck_23922_60 : decode cJ7_rangeCheck_23922 60 = .ok (.iload_n 0, 1) := by decide +kernel
theorem dJ7_rangeCheck_23922_61 : decode cJ7_rangeCheck_23922 61 = .ok (.if_icmp .le 12, 3) := by decide +kernel
theorem dJ7_rangeCheck_23922_73 : decode cJ7_rangeCheck_23922 73 = .ok (.return_, 1) := by decide +kernel
theorem dX9_set_0 : decode cX9_set 0 = .ok (.iload_n 1, 1) := by decide +kernel
theorem dX9_set_1 : decode cX9_set 1 = .ok (.ifCond .lt 37, 3) := by decide +kernel
theorem dX9_set_4 : decode cX9_set 4 = .ok (.iload_n 1, 1) := by decide +kernel
theorem dX9_set_5 : decode cX9_set 5 = .ok (.aload_n 0, 1) := by decide +kernel
theorem dX9_set_6 : decode cX9_set 6 = .ok (.getfield 28, 3) := by decide +kernel
theorem dX9_set_9 : decode cX9_set 9 = .ok (.if_icmp .ge 29, 3) := by decide +kernel
theorem dX9_set_12 : decode cX9_set 12 = .ok (.iload_n 2, 1) := by decide +kernel
theorem dX9_set_13 : decode cX9_set 13 = .ok (.ifCond .lt 25, 3) := by decide +kernel
theorem dX9_set_16 : decode cX9_set 16 = .ok (.iload_n 2, 1) := by decide +kernel
theorem dX9_set_17 : decode cX9_set 17 = .ok (.aload_n 0, 1) := by decide +kernel
theorem dX9_set_18 : decode cX9_set 18 = .ok (.getfield 15, 3) := by decide +kernel
theorem dX9_set_21 : decode cX9_set 21 = .ok (.if_icmp .ge 17, 3) := by decide +kernel
theorem dX9_set_24 : decode cX9_set 24 = .ok (.aload_n 0, 1) := by decide +kernel
theorem dX9_set_25 : decode cX9_set 25 = .ok (.getfield 24, 3) := by decide +kernel
theorem dX9_set_28 : decode cX9_set 28 = .ok (.iload_n 1, 1) := by decide +kernel
theorem dX9_set_29 : decode cX9_set 29 = .ok (.aload_n 0, 1) := by decide +kernel
theorem dX9_set_30 : decode cX9_set 30 = .ok (.getfield 15, 3) := by decide +kernel
theorem dX9_set_33 : decode cX9_set 33 = .ok (.imul, 1) := by decide +kernel
theorem dX9_set_34 : decode cX9_set 34 = .ok (.iload_n 2, 1) := by decide +kernel
theorem dX9_set_35 : decode cX9_set 35 = .ok (.iadd, 1) := by decide +kernel
theorem dX9_set_36 : decode cX9_set 36 = .ok (.iload_n 3, 1) := by decide +kernel
theorem dX9_set_37 : decode cX9_set 37 = .ok (.iastore, 1) := by decide +kernel
theorem dX9_set_38 : decode cX9_set 38 = .ok (.return_, 1) := by decide +kernel
theorem dX9_at_0 : decode cX9_at 0 = .ok (.iload_n 1, 1) := by decide +kernel
theorem dX9_at_1 : decode cX9_at 1 = .ok (.ifCond .lt 23, 3) := by decide +kernel
theorem dX9_at_4 : decode cX9_at 4 = .ok (.iload_n 1, 1) := by decide +kernel
theorem dX9_at_5 : decode cX9_at 5 = .ok (.aload_n 0, 1) := by decide +kernel
theorem dX9_at_6 : decode cX9_at 6 = .ok (.getfield 28, 3) := by decide +kernel
theorem dX9_at_9 : decode cX9_at 9 = .ok (.if_icmp .ge 15, 3) := by decide +kernel
theorem dX9_at_12 : decode cX9_at 12 = .ok (.iload_n 2, 1) := by decide +kernel
theorem dX9_at_13 : decode cX9_at 13 = .ok (.ifCond .lt 11, 3) := by decide +kernel
theorem dX9_at_16 : decode cX9_at 16 = .ok (.iload_n 2, 1) := by decide +kernel
theorem dX9_at_17 : decode cX9_at 17 = .ok (.aload_n 0, 1) := by decide +kernel
theorem dX9_at_18 : decode cX9_at 18 = .ok (.getfield 15, 3) := by decide +kernel
theorem dX9_at_21 : decode cX9_at 21 = .ok (.if_icmp .lt 5, 3) := by decide +kernel
theorem dX9_at_26 : decode cX9_at 26 = .ok (.aload_n 0, 1) := by decide +kernel
theorem dX9_at_27 : decode cX9_at 27 = .ok (.getfield 24, 3) := by decide +kernel
theorem dX9_at_30 : decode cX9_at 30 = .ok (.iload_n 1, 1) := by decide +kernel
theorem dX9_at_31 : decode cX9_at 31 = .ok (.aload_n 0, 1) := by decide +kernel
theorem dX9_at_32 : decode cX9_at 32 = .ok (.getfield 15, 3) := by decide +kernel
theorem dX9_at_35 : decode cX9_at 35 = .ok (.imul, 1) := by decide +kernel
theorem dX9_at_36 : decode cX9_at 36 = .ok (.iload_n 2, 1) := by decide +kernel
theorem dX9_at_37 : decode cX9_at 37 = .ok (.iadd, 1) := by decide +kernel
theorem dX9_at_38 : decode cX9_at 38 = .ok (.iaload, 1) := by decide +kernel
theorem dX9_at_39 : decode cX9_at 39 = .ok (.ireturn, 1) := by decide +kernel
theorem dX6_accepts_0 : decode cX6_accepts 0 = .ok (.aload_n 0, 1) := by decide +kernel
theorem dX6_accepts_1 : decode cX6_accepts 1 = .ok (.aload_n 1, 1) := by decide +kernel
theorem dX6_accepts_2 : decode cX6_accepts 2 = .ok (.putfield 22, 3) := by decide +kernel
theorem dX6_accepts_5 : decode cX6_accepts 5 = .ok (.aload_n 0, 1) := by decide +kernel
theorem dX6_accepts_6 : decode cX6_accepts 6 = .ok (.getfield 22, 3) := by decide +kernel
theorem dX6_accepts_9 : decode cX6_accepts 9 = .ok (.invokevirtual 26, 3) := by decide +kernel
theorem dX6_accepts_12 : decode cX6_accepts 12 = .ok (.aload_n 0, 1) := by decide +kernel
theorem dX6_accepts_13 : decode cX6_accepts 13 = .ok (.iconst 0, 1) := by decide +kernel
theorem dX6_accepts_14 : decode cX6_accepts 14 = .ok (.putfield 31, 3) := by decide +kernel
theorem dX6_accepts_17 : decode cX6_accepts 17 = .ok (.aload_n 0, 1) := by decide +kernel
theorem dX6_accepts_18 : decode cX6_accepts 18 = .ok (.iconst 0, 1) := by decide +kernel
theorem dX6_accepts_19 : decode cX6_accepts 19 = .ok (.putfield 35, 3) := by decide +kernel
theorem dX6_accepts_22 : decode cX6_accepts 22 = .ok (.aload_n 0, 1) := by decide +kernel
theorem dX6_accepts_23 : decode cX6_accepts 23 = .ok (.iconst 0, 1) := by decide +kernel
theorem dX6_accepts_24 : decode cX6_accepts 24 = .ok (.putfield 38, 3) := by decide +kernel
theorem dX6_accepts_27 : decode cX6_accepts 27 = .ok (.aload_n 0, 1) := by decide +kernel
theorem dX6_accepts_28 : decode cX6_accepts 28 = .ok (.invokevirtual 41, 3) := by decide +kernel
theorem dX6_accepts_31 : decode cX6_accepts 31 = .ok (.istore_n 2, 1) := by decide +kernel
theorem dX6_accepts_32 : decode cX6_accepts 32 = .ok (.iload_n 2, 1) := by decide +kernel
theorem dX6_accepts_33 : decode cX6_accepts 33 = .ok (.istore_n 3, 1) := by decide +kernel
theorem dX6_accepts_34 : decode cX6_accepts 34 = .ok (.iconst 0, 1) := by decide +kernel
theorem dX6_accepts_35 : decode cX6_accepts 35 = .ok (.istore 4, 2) := by decide +kernel
theorem dX6_accepts_37 : decode cX6_accepts 37 = .ok (.iload 4, 2) := by decide +kernel
theorem dX6_accepts_39 : decode cX6_accepts 39 = .ok (.bipush 30, 2) := by decide +kernel
theorem dX6_accepts_41 : decode cX6_accepts 41 = .ok (.if_icmp .gt 45, 3) := by decide +kernel
theorem dX6_accepts_44 : decode cX6_accepts 44 = .ok (.iload_n 3, 1) := by decide +kernel
theorem dX6_accepts_45 : decode cX6_accepts 45 = .ok (.ifCond .eq 41, 3) := by decide +kernel
theorem dX6_accepts_86 : decode cX6_accepts 86 = .ok (.iload_n 2, 1) := by decide +kernel
theorem dX6_accepts_87 : decode cX6_accepts 87 = .ok (.ifCond .ne 18, 3) := by decide +kernel
theorem dX6_accepts_90 : decode cX6_accepts 90 = .ok (.aload_n 0, 1) := by decide +kernel
theorem dX6_accepts_91 : decode cX6_accepts 91 = .ok (.getfield 9, 3) := by decide +kernel
theorem dX6_accepts_94 : decode cX6_accepts 94 = .ok (.aload_n 0, 1) := by decide +kernel
theorem dX6_accepts_95 : decode cX6_accepts 95 = .ok (.getfield 38, 3) := by decide +kernel
theorem dX6_accepts_98 : decode cX6_accepts 98 = .ok (.aload_n 0, 1) := by decide +kernel
theorem dX6_accepts_99 : decode cX6_accepts 99 = .ok (.getfield 31, 3) := by decide +kernel
theorem dX6_accepts_102 : decode cX6_accepts 102 = .ok (.invokevirtual 53, 3) := by decide +kernel
theorem dX6_accepts_105 : decode cX6_accepts 105 = .ok (.aload_n 0, 1) := by decide +kernel
theorem dX6_accepts_106 : decode cX6_accepts 106 = .ok (.getfield 22, 3) := by decide +kernel
theorem dX6_accepts_109 : decode cX6_accepts 109 = .ok (.aload_n 0, 1) := by decide +kernel
theorem dX6_accepts_110 : decode cX6_accepts 110 = .ok (.getfield 22, 3) := by decide +kernel
theorem dX6_accepts_113 : decode cX6_accepts 113 = .ok (.getfield 57, 3) := by decide +kernel
theorem dX6_accepts_116 : decode cX6_accepts 116 = .ok (.invokevirtual 60, 3) := by decide +kernel
theorem dX6_accepts_119 : decode cX6_accepts 119 = .ok (.putfield 64, 3) := by decide +kernel
theorem dX6_accepts_122 : decode cX6_accepts 122 = .ok (.iload_n 2, 1) := by decide +kernel
theorem dX6_accepts_123 : decode cX6_accepts 123 = .ok (.ireturn, 1) := by decide +kernel
theorem dX7_reset_0 : decode cX7_reset 0 = .ok (.aload_n 0, 1) := by decide +kernel
theorem dX7_reset_1 : decode cX7_reset 1 = .ok (.getfield 14, 3) := by decide +kernel
theorem dX7_reset_4 : decode cX7_reset 4 = .ok (.invokevirtual 46, 3) := by decide +kernel
theorem dX7_reset_7 : decode cX7_reset 7 = .ok (.aload_n 0, 1) := by decide +kernel
theorem dX7_reset_8 : decode cX7_reset 8 = .ok (.getfield 20, 3) := by decide +kernel
theorem dX7_reset_11 : decode cX7_reset 11 = .ok (.invokevirtual 46, 3) := by decide +kernel
theorem dX7_reset_14 : decode cX7_reset 14 = .ok (.aload_n 0, 1) := by decide +kernel
theorem dX7_reset_15 : decode cX7_reset 15 = .ok (.getfield 23, 3) := by decide +kernel
theorem dX7_reset_18 : decode cX7_reset 18 = .ok (.invokevirtual 46, 3) := by decide +kernel
theorem dX7_reset_21 : decode cX7_reset 21 = .ok (.aload_n 0, 1) := by decide +kernel
theorem dX7_reset_22 : decode cX7_reset 22 = .ok (.getfield 26, 3) := by decide +kernel
theorem dX7_reset_25 : decode cX7_reset 25 = .ok (.invokevirtual 46, 3) := by decide +kernel
theorem dX7_reset_28 : decode cX7_reset 28 = .ok (.aload_n 0, 1) := by decide +kernel
theorem dX7_reset_29 : decode cX7_reset 29 = .ok (.getfield 29, 3) := by decide +kernel
theorem dX7_reset_32 : decode cX7_reset 32 = .ok (.invokevirtual 46, 3) := by decide +kernel
theorem dX7_reset_35 : decode cX7_reset 35 = .ok (.aload_n 0, 1) := by decide +kernel
theorem dX7_reset_36 : decode cX7_reset 36 = .ok (.iconst 0, 1) := by decide +kernel
theorem dX7_reset_37 : decode cX7_reset 37 = .ok (.putfield 49, 3) := by decide +kernel
theorem dX7_reset_40 : decode cX7_reset 40 = .ok (.aload_n 0, 1) := by decide +kernel
theorem dX7_reset_41 : decode cX7_reset 41 = .ok (.iconst 0, 1) := by decide +kernel
theorem dX7_reset_42 : decode cX7_reset 42 = .ok (.putfield 53, 3) := by decide +kernel
theorem dX7_reset_45 : decode cX7_reset 45 = .ok (.aload_n 0, 1) := by decide +kernel
theorem dX7_reset_46 : decode cX7_reset 46 = .ok (.iconst 0, 1) := by decide +kernel
theorem dX7_reset_47 : decode cX7_reset 47 = .ok (.putfield 56, 3) := by decide +kernel
theorem dX7_reset_50 : decode cX7_reset 50 = .ok (.aload_n 0, 1) := by decide +kernel
theorem dX7_reset_51 : decode cX7_reset 51 = .ok (.iconst 0, 1) := by decide +kernel
theorem dX7_reset_52 : decode cX7_reset 52 = .ok (.putfield 59, 3) := by decide +kernel
theorem dX7_reset_55 : decode cX7_reset 55 = .ok (.return_, 1) := by decide +kernel
theorem dX6_takeHead_0 : decode cX6_takeHead 0 = .ok (.aload_n 0, 1) := by decide +kernel
theorem dX6_takeHead_1 : decode cX6_takeHead 1 = .ok (.bipush 22, 2) := by decide +kernel
theorem dX6_takeHead_3 : decode cX6_takeHead 3 = .ok (.invokevirtual 74, 3) := by decide +kernel
theorem dX6_takeHead_6 : decode cX6_takeHead 6 = .ok (.ifCond .eq 12, 3) := by decide +kernel
theorem dX6_takeHead_18 : decode cX6_takeHead 18 = .ok (.iconst 0, 1) := by decide +kernel
theorem dX6_takeHead_19 : decode cX6_takeHead 19 = .ok (.ireturn, 1) := by decide +kernel
theorem dX6_take_0 : decode cX6_take 0 = .ok (.aload_n 0, 1) := by decide +kernel
theorem dX6_take_1 : decode cX6_take 1 = .ok (.iload_n 1, 1) := by decide +kernel
theorem dX6_take_2 : decode cX6_take 2 = .ok (.invokevirtual 71, 3) := by decide +kernel
theorem dX6_take_5 : decode cX6_take 5 = .ok (.istore_n 2, 1) := by decide +kernel
theorem dX6_take_6 : decode cX6_take 6 = .ok (.iload_n 2, 1) := by decide +kernel
theorem dX6_take_7 : decode cX6_take 7 = .ok (.ifCond .eq 13, 3) := by decide +kernel
theorem dX6_take_20 : decode cX6_take 20 = .ok (.iload_n 2, 1) := by decide +kernel
theorem dX6_take_21 : decode cX6_take 21 = .ok (.ireturn, 1) := by decide +kernel
theorem dX6_wants_0 : decode cX6_wants 0 = .ok (.aload_n 0, 1) := by decide +kernel
theorem dX6_wants_1 : decode cX6_wants 1 = .ok (.getfield 21, 3) := by decide +kernel
theorem dX6_wants_4 : decode cX6_wants 4 = .ok (.aload_n 0, 1) := by decide +kernel
theorem dX6_wants_5 : decode cX6_wants 5 = .ok (.getfield 31, 3) := by decide +kernel
theorem dX6_wants_8 : decode cX6_wants 8 = .ok (.iconst 0, 1) := by decide +kernel
theorem dX6_wants_9 : decode cX6_wants 9 = .ok (.invokevirtual 48, 3) := by decide +kernel
theorem dX6_wants_12 : decode cX6_wants 12 = .ok (.iload_n 1, 1) := by decide +kernel
theorem dX6_wants_13 : decode cX6_wants 13 = .ok (.if_icmp .eq 9, 3) := by decide +kernel
theorem dX6_wants_16 : decode cX6_wants 16 = .ok (.aload_n 0, 1) := by decide +kernel
theorem dX6_wants_17 : decode cX6_wants 17 = .ok (.iconst 1, 1) := by decide +kernel
theorem dX6_wants_18 : decode cX6_wants 18 = .ok (.invokevirtual 67, 3) := by decide +kernel
theorem dX6_wants_21 : decode cX6_wants 21 = .ok (.ireturn, 1) := by decide +kernel
theorem dX6_refuse_0 : decode cX6_refuse 0 = .ok (.aload_n 0, 1) := by decide +kernel
theorem dX6_refuse_1 : decode cX6_refuse 1 = .ok (.iload_n 1, 1) := by decide +kernel
theorem dX6_refuse_2 : decode cX6_refuse 2 = .ok (.putfield 38, 3) := by decide +kernel
theorem dX6_refuse_5 : decode cX6_refuse 5 = .ok (.iconst 0, 1) := by decide +kernel
theorem dX6_refuse_6 : decode cX6_refuse 6 = .ok (.ireturn, 1) := by decide +kernel
theorem dX10_blame_0 : decode cX10_blame 0 = .ok (.aload_n 0, 1) := by decide +kernel
theorem dX10_blame_1 : decode cX10_blame 1 = .ok (.getfield 14, 3) := by decide +kernel
theorem dX10_blame_4 : decode cX10_blame 4 = .ok (.iload_n 2, 1) := by decide +kernel
theorem dX10_blame_5 : decode cX10_blame 5 = .ok (.iconst 1, 1) := by decide +kernel
theorem dX10_blame_6 : decode cX10_blame 6 = .ok (.invokevirtual 48, 3) := by decide +kernel
theorem dX10_blame_9 : decode cX10_blame 9 = .ok (.istore_n 3, 1) := by decide +kernel
theorem dX10_blame_10 : decode cX10_blame 10 = .ok (.aload_n 0, 1) := by decide +kernel
theorem dX10_blame_11 : decode cX10_blame 11 = .ok (.getfield 45, 3) := by decide +kernel
theorem dX10_blame_14 : decode cX10_blame 14 = .ok (.ifCond .eq 27, 3) := by decide +kernel
theorem dX10_blame_41 : decode cX10_blame 41 = .ok (.aload_n 0, 1) := by decide +kernel
theorem dX10_blame_42 : decode cX10_blame 42 = .ok (.iload_n 1, 1) := by decide +kernel
theorem dX10_blame_43 : decode cX10_blame 43 = .ok (.putfield 45, 3) := by decide +kernel
theorem dX10_blame_46 : decode cX10_blame 46 = .ok (.aload_n 0, 1) := by decide +kernel
theorem dX10_blame_47 : decode cX10_blame 47 = .ok (.iload_n 3, 1) := by decide +kernel
theorem dX10_blame_48 : decode cX10_blame 48 = .ok (.putfield 27, 3) := by decide +kernel
theorem dX10_blame_51 : decode cX10_blame 51 = .ok (.return_, 1) := by decide +kernel
theorem dX9_size_0 : decode cX9_size 0 = .ok (.aload_n 0, 1) := by decide +kernel
theorem dX9_size_1 : decode cX9_size 1 = .ok (.getfield 28, 3) := by decide +kernel
theorem dX9_size_4 : decode cX9_size 4 = .ok (.ireturn, 1) := by decide +kernel
theorem dX10_worstPlace_0 : decode cX10_worstPlace 0 = .ok (.aload_n 0, 1) := by decide +kernel
theorem dX10_worstPlace_1 : decode cX10_worstPlace 1 = .ok (.getfield 45, 3) := by decide +kernel
theorem dX10_worstPlace_4 : decode cX10_worstPlace 4 = .ok (.ifCond .ne 7, 3) := by decide +kernel
theorem dX10_worstPlace_11 : decode cX10_worstPlace 11 = .ok (.aload_n 0, 1) := by decide +kernel
theorem dX10_worstPlace_12 : decode cX10_worstPlace 12 = .ok (.getfield 27, 3) := by decide +kernel
theorem dX10_worstPlace_15 : decode cX10_worstPlace 15 = .ok (.ireturn, 1) := by decide +kernel
theorem dX10_worst_0 : decode cX10_worst 0 = .ok (.aload_n 0, 1) := by decide +kernel
theorem dX10_worst_1 : decode cX10_worst 1 = .ok (.getfield 45, 3) := by decide +kernel
theorem dX10_worst_4 : decode cX10_worst 4 = .ok (.ireturn, 1) := by decide +kernel
theorem dX12_read_0 : decode cX12_read 0 = .ok (.aload_n 0, 1) := by decide +kernel
theorem dX12_read_1 : decode cX12_read 1 = .ok (.aload_n 0, 1) := by decide +kernel
theorem dX12_read_2 : decode cX12_read 2 = .ok (.getfield 285, 3) := by decide +kernel
theorem dX12_read_5 : decode cX12_read 5 = .ok (.putfield 292, 3) := by decide +kernel
theorem dX12_read_8 : decode cX12_read 8 = .ok (.iconst 0, 1) := by decide +kernel
theorem dX12_read_9 : decode cX12_read 9 = .ok (.istore_n 1, 1) := by decide +kernel
theorem dX12_read_10 : decode cX12_read 10 = .ok (.iload_n 1, 1) := by decide +kernel
theorem dX12_read_11 : decode cX12_read 11 = .ok (.aload_n 0, 1) := by decide +kernel
theorem dX12_read_12 : decode cX12_read 12 = .ok (.getfield 292, 3) := by decide +kernel
theorem dX12_read_15 : decode cX12_read 15 = .ok (.if_icmp .ge 21, 3) := by decide +kernel
theorem dX12_read_36 : decode cX12_read 36 = .ok (.aload_n 0, 1) := by decide +kernel
theorem dX12_read_37 : decode cX12_read 37 = .ok (.iconst 0, 1) := by decide +kernel
theorem dX12_read_38 : decode cX12_read 38 = .ok (.putfield 285, 3) := by decide +kernel
theorem dX12_read_41 : decode cX12_read 41 = .ok (.aload_n 0, 1) := by decide +kernel
theorem dX12_read_42 : decode cX12_read 42 = .ok (.invokevirtual 347, 3) := by decide +kernel
theorem dX12_read_45 : decode cX12_read 45 = .ok (.aload_n 0, 1) := by decide +kernel
theorem dX12_read_46 : decode cX12_read 46 = .ok (.iconst 0, 1) := by decide +kernel
theorem dX12_read_47 : decode cX12_read 47 = .ok (.putfield 335, 3) := by decide +kernel
theorem dX12_read_50 : decode cX12_read 50 = .ok (.aload_n 0, 1) := by decide +kernel
theorem dX12_read_51 : decode cX12_read 51 = .ok (.iconst 0, 1) := by decide +kernel
theorem dX12_read_52 : decode cX12_read 52 = .ok (.putfield 332, 3) := by decide +kernel
theorem dX12_read_55 : decode cX12_read 55 = .ok (.aload_n 0, 1) := by decide +kernel
theorem dX12_read_56 : decode cX12_read 56 = .ok (.iconst (-1), 1) := by decide +kernel
theorem dX12_read_57 : decode cX12_read 57 = .ok (.putfield 36, 3) := by decide +kernel
theorem dX12_read_60 : decode cX12_read 60 = .ok (.aload_n 0, 1) := by decide +kernel
theorem dX12_read_61 : decode cX12_read 61 = .ok (.invokevirtual 350, 3) := by decide +kernel
theorem dX12_read_64 : decode cX12_read 64 = .ok (.aload_n 0, 1) := by decide +kernel
theorem dX12_read_65 : decode cX12_read 65 = .ok (.getfield 332, 3) := by decide +kernel
theorem dX12_read_68 : decode cX12_read 68 = .ok (.ifCond .ne 7, 3) := by decide +kernel
theorem dX12_read_75 : decode cX12_read 75 = .ok (.aload_n 0, 1) := by decide +kernel
theorem dX12_read_76 : decode cX12_read 76 = .ok (.getfield 332, 3) := by decide +kernel
theorem dX12_read_79 : decode cX12_read 79 = .ok (.ifCond .ne 7, 3) := by decide +kernel
theorem dX12_read_86 : decode cX12_read 86 = .ok (.aload_n 0, 1) := by decide +kernel
theorem dX12_read_87 : decode cX12_read 87 = .ok (.aload_n 0, 1) := by decide +kernel
theorem dX12_read_88 : decode cX12_read 88 = .ok (.getfield 36, 3) := by decide +kernel
theorem dX12_read_91 : decode cX12_read 91 = .ok (.putfield 39, 3) := by decide +kernel
theorem dX12_read_94 : decode cX12_read 94 = .ok (.aload_n 0, 1) := by decide +kernel
theorem dX12_read_95 : decode cX12_read 95 = .ok (.getfield 332, 3) := by decide +kernel
theorem dX12_read_98 : decode cX12_read 98 = .ok (.ifCond .le 30, 3) := by decide +kernel
theorem dX12_read_101 : decode cX12_read 101 = .ok (.aload_n 0, 1) := by decide +kernel
theorem dX12_read_102 : decode cX12_read 102 = .ok (.getfield 359, 3) := by decide +kernel
theorem dX12_read_105 : decode cX12_read 105 = .ok (.ifCond .eq 18, 3) := by decide +kernel
theorem dX12_read_123 : decode cX12_read 123 = .ok (.aload_n 0, 1) := by decide +kernel
theorem dX12_read_124 : decode cX12_read 124 = .ok (.getfield 332, 3) := by decide +kernel
theorem dX12_read_127 : decode cX12_read 127 = .ok (.ireturn, 1) := by decide +kernel
theorem dX12_cut_0 : decode cX12_cut 0 = .ok (.aload_n 0, 1) := by decide +kernel
theorem dX12_cut_1 : decode cX12_cut 1 = .ok (.iconst 0, 1) := by decide +kernel
