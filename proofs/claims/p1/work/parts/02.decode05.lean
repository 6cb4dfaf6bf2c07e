theorem dX12_cut_2 : decode cX12_cut 2 = .ok (.putfield 295, 3) := by decide +kernel
theorem dX12_cut_5 : decode cX12_cut 5 = .ok (.iconst 0, 1) := by decide +kernel
theorem dX12_cut_6 : decode cX12_cut 6 = .ok (.istore_n 1, 1) := by decide +kernel
theorem dX12_cut_7 : decode cX12_cut 7 = .ok (.aload_n 0, 1) := by decide +kernel
theorem dX12_cut_8 : decode cX12_cut 8 = .ok (.getfield 295, 3) := by decide +kernel
theorem dX12_cut_11 : decode cX12_cut 11 = .ok (.sipush 1200, 3) := by decide +kernel
theorem dX12_cut_14 : decode cX12_cut 14 = .ok (.if_icmp .gt 204, 3) := by decide +kernel
theorem dX12_cut_17 : decode cX12_cut 17 = .ok (.aload_n 0, 1) := by decide +kernel
theorem dX12_cut_18 : decode cX12_cut 18 = .ok (.iload_n 1, 1) := by decide +kernel
theorem dX12_cut_19 : decode cX12_cut 19 = .ok (.invokevirtual 298, 3) := by decide +kernel
theorem dX12_cut_22 : decode cX12_cut 22 = .ok (.istore_n 2, 1) := by decide +kernel
theorem dX12_cut_23 : decode cX12_cut 23 = .ok (.iload_n 1, 1) := by decide +kernel
theorem dX12_cut_24 : decode cX12_cut 24 = .ok (.aload_n 0, 1) := by decide +kernel
theorem dX12_cut_25 : decode cX12_cut 25 = .ok (.getfield 292, 3) := by decide +kernel
theorem dX12_cut_28 : decode cX12_cut 28 = .ok (.if_icmp .lt 14, 3) := by decide +kernel
theorem dX12_cut_31 : decode cX12_cut 31 = .ok (.aload_n 0, 1) := by decide +kernel
theorem dX12_cut_32 : decode cX12_cut 32 = .ok (.iconst 0, 1) := by decide +kernel
theorem dX12_cut_33 : decode cX12_cut 33 = .ok (.aload_n 0, 1) := by decide +kernel
theorem dX12_cut_34 : decode cX12_cut 34 = .ok (.getfield 292, 3) := by decide +kernel
theorem dX12_cut_37 : decode cX12_cut 37 = .ok (.iconst 0, 1) := by decide +kernel
theorem dX12_cut_38 : decode cX12_cut 38 = .ok (.invokevirtual 302, 3) := by decide +kernel
theorem dX12_cut_41 : decode cX12_cut 41 = .ok (.return_, 1) := by decide +kernel
theorem dX12_at_0 : decode cX12_at 0 = .ok (.iload_n 1, 1) := by decide +kernel
theorem dX12_at_1 : decode cX12_at 1 = .ok (.aload_n 0, 1) := by decide +kernel
theorem dX12_at_2 : decode cX12_at 2 = .ok (.getfield 292, 3) := by decide +kernel
theorem dX12_at_5 : decode cX12_at 5 = .ok (.if_icmp .ge 16, 3) := by decide +kernel
theorem dX12_at_21 : decode cX12_at 21 = .ok (.iconst 0, 1) := by decide +kernel
theorem dX12_at_22 : decode cX12_at 22 = .ok (.ireturn, 1) := by decide +kernel
theorem dX12_token_0 : decode cX12_token 0 = .ok (.aload_n 0, 1) := by decide +kernel
theorem dX12_token_1 : decode cX12_token 1 = .ok (.getfield 24, 3) := by decide +kernel
theorem dX12_token_4 : decode cX12_token 4 = .ok (.aload_n 0, 1) := by decide +kernel
theorem dX12_token_5 : decode cX12_token 5 = .ok (.getfield 295, 3) := by decide +kernel
theorem dX12_token_8 : decode cX12_token 8 = .ok (.iload_n 1, 1) := by decide +kernel
theorem dX12_token_9 : decode cX12_token 9 = .ok (.iastore, 1) := by decide +kernel
theorem dX12_token_10 : decode cX12_token 10 = .ok (.aload_n 0, 1) := by decide +kernel
theorem dX12_token_11 : decode cX12_token 11 = .ok (.getfield 27, 3) := by decide +kernel
theorem dX12_token_14 : decode cX12_token 14 = .ok (.aload_n 0, 1) := by decide +kernel
theorem dX12_token_15 : decode cX12_token 15 = .ok (.getfield 295, 3) := by decide +kernel
theorem dX12_token_18 : decode cX12_token 18 = .ok (.iload_n 2, 1) := by decide +kernel
theorem dX12_token_19 : decode cX12_token 19 = .ok (.iastore, 1) := by decide +kernel
theorem dX12_token_20 : decode cX12_token 20 = .ok (.aload_n 0, 1) := by decide +kernel
theorem dX12_token_21 : decode cX12_token 21 = .ok (.getfield 30, 3) := by decide +kernel
theorem dX12_token_24 : decode cX12_token 24 = .ok (.aload_n 0, 1) := by decide +kernel
theorem dX12_token_25 : decode cX12_token 25 = .ok (.getfield 295, 3) := by decide +kernel
theorem dX12_token_28 : decode cX12_token 28 = .ok (.iload_n 3, 1) := by decide +kernel
theorem dX12_token_29 : decode cX12_token 29 = .ok (.iastore, 1) := by decide +kernel
theorem dX12_token_30 : decode cX12_token 30 = .ok (.aload_n 0, 1) := by decide +kernel
theorem dX12_token_31 : decode cX12_token 31 = .ok (.dup, 1) := by decide +kernel
theorem dX12_token_32 : decode cX12_token 32 = .ok (.getfield 295, 3) := by decide +kernel
theorem dX12_token_35 : decode cX12_token 35 = .ok (.iconst 1, 1) := by decide +kernel
theorem dX12_token_36 : decode cX12_token 36 = .ok (.iadd, 1) := by decide +kernel
theorem dX12_token_37 : decode cX12_token 37 = .ok (.putfield 295, 3) := by decide +kernel
theorem dX12_token_40 : decode cX12_token 40 = .ok (.return_, 1) := by decide +kernel
theorem dX12_parse_0 : decode cX12_parse 0 = .ok (.aload_n 0, 1) := by decide +kernel
theorem dX12_parse_1 : decode cX12_parse 1 = .ok (.getfield 42, 3) := by decide +kernel
theorem dX12_parse_4 : decode cX12_parse 4 = .ok (.iconst 1, 1) := by decide +kernel
theorem dX12_parse_5 : decode cX12_parse 5 = .ok (.iconst 0, 1) := by decide +kernel
theorem dX12_parse_6 : decode cX12_parse 6 = .ok (.iastore, 1) := by decide +kernel
theorem dX12_parse_7 : decode cX12_parse 7 = .ok (.aload_n 0, 1) := by decide +kernel
theorem dX12_parse_8 : decode cX12_parse 8 = .ok (.getfield 45, 3) := by decide +kernel
theorem dX12_parse_11 : decode cX12_parse 11 = .ok (.iconst 1, 1) := by decide +kernel
theorem dX12_parse_12 : decode cX12_parse 12 = .ok (.iconst 0, 1) := by decide +kernel
theorem dX12_parse_13 : decode cX12_parse 13 = .ok (.iastore, 1) := by decide +kernel
theorem dX12_parse_14 : decode cX12_parse 14 = .ok (.aload_n 0, 1) := by decide +kernel
theorem dX12_parse_15 : decode cX12_parse 15 = .ok (.getfield 48, 3) := by decide +kernel
theorem dX12_parse_18 : decode cX12_parse 18 = .ok (.iconst 1, 1) := by decide +kernel
theorem dX12_parse_19 : decode cX12_parse 19 = .ok (.iconst 0, 1) := by decide +kernel
theorem dX12_parse_20 : decode cX12_parse 20 = .ok (.iastore, 1) := by decide +kernel
theorem dX12_parse_21 : decode cX12_parse 21 = .ok (.aload_n 0, 1) := by decide +kernel
theorem dX12_parse_22 : decode cX12_parse 22 = .ok (.getfield 51, 3) := by decide +kernel
theorem dX12_parse_25 : decode cX12_parse 25 = .ok (.iconst 1, 1) := by decide +kernel
theorem dX12_parse_26 : decode cX12_parse 26 = .ok (.iconst 0, 1) := by decide +kernel
theorem dX12_parse_27 : decode cX12_parse 27 = .ok (.iastore, 1) := by decide +kernel
theorem dX12_parse_28 : decode cX12_parse 28 = .ok (.aload_n 0, 1) := by decide +kernel
theorem dX12_parse_29 : decode cX12_parse 29 = .ok (.getfield 54, 3) := by decide +kernel
theorem dX12_parse_32 : decode cX12_parse 32 = .ok (.iconst 1, 1) := by decide +kernel
theorem dX12_parse_33 : decode cX12_parse 33 = .ok (.iconst 0, 1) := by decide +kernel
theorem dX12_parse_34 : decode cX12_parse 34 = .ok (.iastore, 1) := by decide +kernel
theorem dX12_parse_35 : decode cX12_parse 35 = .ok (.aload_n 0, 1) := by decide +kernel
theorem dX12_parse_36 : decode cX12_parse 36 = .ok (.getfield 57, 3) := by decide +kernel
theorem dX12_parse_39 : decode cX12_parse 39 = .ok (.iconst 1, 1) := by decide +kernel
theorem dX12_parse_40 : decode cX12_parse 40 = .ok (.iconst 0, 1) := by decide +kernel
theorem dX12_parse_41 : decode cX12_parse 41 = .ok (.iastore, 1) := by decide +kernel
theorem dX12_parse_42 : decode cX12_parse 42 = .ok (.aload_n 0, 1) := by decide +kernel
theorem dX12_parse_43 : decode cX12_parse 43 = .ok (.getfield 60, 3) := by decide +kernel
theorem dX12_parse_46 : decode cX12_parse 46 = .ok (.iconst 1, 1) := by decide +kernel
theorem dX12_parse_47 : decode cX12_parse 47 = .ok (.iconst 0, 1) := by decide +kernel
theorem dX12_parse_48 : decode cX12_parse 48 = .ok (.iastore, 1) := by decide +kernel
theorem dX12_parse_49 : decode cX12_parse 49 = .ok (.aload_n 0, 1) := by decide +kernel
theorem dX12_parse_50 : decode cX12_parse 50 = .ok (.iconst 0, 1) := by decide +kernel
theorem dX12_parse_51 : decode cX12_parse 51 = .ok (.putfield 384, 3) := by decide +kernel
theorem dX12_parse_54 : decode cX12_parse 54 = .ok (.aload_n 0, 1) := by decide +kernel
theorem dX12_parse_55 : decode cX12_parse 55 = .ok (.bipush 10, 2) := by decide +kernel
theorem dX12_parse_57 : decode cX12_parse 57 = .ok (.invokevirtual 387, 3) := by decide +kernel
theorem dX12_parse_60 : decode cX12_parse 60 = .ok (.aload_n 0, 1) := by decide +kernel
theorem dX12_parse_61 : decode cX12_parse 61 = .ok (.iconst 4, 1) := by decide +kernel
theorem dX12_parse_62 : decode cX12_parse 62 = .ok (.invokevirtual 387, 3) := by decide +kernel
theorem dX12_parse_65 : decode cX12_parse 65 = .ok (.aload_n 0, 1) := by decide +kernel
theorem dX12_parse_66 : decode cX12_parse 66 = .ok (.iconst 5, 1) := by decide +kernel
theorem dX12_parse_67 : decode cX12_parse 67 = .ok (.invokevirtual 341, 3) := by decide +kernel
theorem dX12_parse_70 : decode cX12_parse 70 = .ok (.ifCond .ne 94, 3) := by decide +kernel
theorem dX12_parse_73 : decode cX12_parse 73 = .ok (.iconst 1, 1) := by decide +kernel
theorem dX12_parse_74 : decode cX12_parse 74 = .ok (.istore_n 1, 1) := by decide +kernel
theorem dX12_parse_75 : decode cX12_parse 75 = .ok (.iload_n 1, 1) := by decide +kernel
theorem dX12_parse_76 : decode cX12_parse 76 = .ok (.ifCond .eq 88, 3) := by decide +kernel
theorem dX12_parse_79 : decode cX12_parse 79 = .ok (.aload_n 0, 1) := by decide +kernel
theorem dX12_parse_80 : decode cX12_parse 80 = .ok (.getfield 332, 3) := by decide +kernel
theorem dX12_parse_83 : decode cX12_parse 83 = .ok (.ifCond .ne 81, 3) := by decide +kernel
theorem dX12_parse_164 : decode cX12_parse 164 = .ok (.aload_n 0, 1) := by decide +kernel
theorem dX12_parse_165 : decode cX12_parse 165 = .ok (.iconst 5, 1) := by decide +kernel
theorem dX12_parse_166 : decode cX12_parse 166 = .ok (.invokevirtual 387, 3) := by decide +kernel
theorem dX12_parse_169 : decode cX12_parse 169 = .ok (.iconst 1, 1) := by decide +kernel
theorem dX12_parse_170 : decode cX12_parse 170 = .ok (.istore_n 1, 1) := by decide +kernel
theorem dX12_parse_171 : decode cX12_parse 171 = .ok (.iload_n 1, 1) := by decide +kernel
theorem dX12_parse_172 : decode cX12_parse 172 = .ok (.ifCond .eq 38, 3) := by decide +kernel
theorem dX12_parse_175 : decode cX12_parse 175 = .ok (.aload_n 0, 1) := by decide +kernel
theorem dX12_parse_176 : decode cX12_parse 176 = .ok (.getfield 332, 3) := by decide +kernel
theorem dX12_parse_179 : decode cX12_parse 179 = .ok (.ifCond .ne 31, 3) := by decide +kernel
theorem dX12_parse_210 : decode cX12_parse 210 = .ok (.return_, 1) := by decide +kernel
theorem dX12_must_0 : decode cX12_must 0 = .ok (.aload_n 0, 1) := by decide +kernel
theorem dX12_must_1 : decode cX12_must 1 = .ok (.iload_n 1, 1) := by decide +kernel
theorem dX12_must_2 : decode cX12_must 2 = .ok (.invokevirtual 341, 3) := by decide +kernel
theorem dX12_must_5 : decode cX12_must 5 = .ok (.ifCond .eq 10, 3) := by decide +kernel
theorem dX12_must_15 : decode cX12_must 15 = .ok (.aload_n 0, 1) := by decide +kernel
theorem dX12_must_16 : decode cX12_must 16 = .ok (.iconst 1, 1) := by decide +kernel
theorem dX12_must_17 : decode cX12_must 17 = .ok (.invokevirtual 338, 3) := by decide +kernel
theorem dX12_must_20 : decode cX12_must 20 = .ok (.return_, 1) := by decide +kernel
theorem dX12_is_0 : decode cX12_is 0 = .ok (.aload_n 0, 1) := by decide +kernel
theorem dX12_is_1 : decode cX12_is 1 = .ok (.getfield 332, 3) := by decide +kernel
theorem dX12_is_4 : decode cX12_is 4 = .ok (.ifCond .ne 20, 3) := by decide +kernel
theorem dX12_is_7 : decode cX12_is 7 = .ok (.aload_n 0, 1) := by decide +kernel
theorem dX12_is_8 : decode cX12_is 8 = .ok (.getfield 24, 3) := by decide +kernel
theorem dX12_is_11 : decode cX12_is 11 = .ok (.aload_n 0, 1) := by decide +kernel
theorem dX12_is_12 : decode cX12_is 12 = .ok (.getfield 335, 3) := by decide +kernel
theorem dX12_is_15 : decode cX12_is 15 = .ok (.iaload, 1) := by decide +kernel
theorem dX12_is_16 : decode cX12_is 16 = .ok (.iload_n 1, 1) := by decide +kernel
theorem dX12_is_17 : decode cX12_is 17 = .ok (.if_icmp .ne 7, 3) := by decide +kernel
theorem dX12_is_24 : decode cX12_is 24 = .ok (.iconst 0, 1) := by decide +kernel
theorem dX12_is_25 : decode cX12_is 25 = .ok (.ireturn, 1) := by decide +kernel
theorem dX12_fail_0 : decode cX12_fail 0 = .ok (.aload_n 0, 1) := by decide +kernel
theorem dX12_fail_1 : decode cX12_fail 1 = .ok (.getfield 332, 3) := by decide +kernel
theorem dX12_fail_4 : decode cX12_fail 4 = .ok (.ifCond .le 4, 3) := by decide +kernel
theorem dX12_fail_7 : decode cX12_fail 7 = .ok (.return_, 1) := by decide +kernel
theorem dX12_fail_8 : decode cX12_fail 8 = .ok (.aload_n 0, 1) := by decide +kernel
theorem dX12_fail_9 : decode cX12_fail 9 = .ok (.iload_n 1, 1) := by decide +kernel
theorem dX12_fail_10 : decode cX12_fail 10 = .ok (.putfield 332, 3) := by decide +kernel
theorem dX12_fail_13 : decode cX12_fail 13 = .ok (.aload_n 0, 1) := by decide +kernel
theorem dX12_fail_14 : decode cX12_fail 14 = .ok (.aload_n 0, 1) := by decide +kernel
theorem dX12_fail_15 : decode cX12_fail 15 = .ok (.getfield 27, 3) := by decide +kernel
theorem dX12_fail_18 : decode cX12_fail 18 = .ok (.aload_n 0, 1) := by decide +kernel
theorem dX12_fail_19 : decode cX12_fail 19 = .ok (.getfield 335, 3) := by decide +kernel
theorem dX12_fail_22 : decode cX12_fail 22 = .ok (.iaload, 1) := by decide +kernel
theorem dX12_fail_23 : decode cX12_fail 23 = .ok (.putfield 36, 3) := by decide +kernel
theorem dX12_fail_26 : decode cX12_fail 26 = .ok (.return_, 1) := by decide +kernel
theorem dX11_place_0 : decode cX11_place 0 = .ok (.aload_n 0, 1) := by decide +kernel
theorem dX11_place_1 : decode cX11_place 1 = .ok (.getfield 17, 3) := by decide +kernel
theorem dX11_place_4 : decode cX11_place 4 = .ok (.ireturn, 1) := by decide +kernel
theorem dX12_place_0 : decode cX12_place 0 = .ok (.aload_n 0, 1) := by decide +kernel
theorem dX12_place_1 : decode cX12_place 1 = .ok (.getfield 39, 3) := by decide +kernel
theorem dX12_place_4 : decode cX12_place 4 = .ok (.ireturn, 1) := by decide +kernel
theorem dX11_block_0 : decode cX11_block 0 = .ok (.aload_n 0, 1) := by decide +kernel
theorem dX11_block_1 : decode cX11_block 1 = .ok (.getfield 92, 3) := by decide +kernel
theorem dX11_block_4 : decode cX11_block 4 = .ok (.ifnull 17, 3) := by decide +kernel
theorem dX11_block_21 : decode cX11_block 21 = .ok (.iconst (-1), 1) := by decide +kernel
theorem dX11_block_22 : decode cX11_block 22 = .ok (.ireturn, 1) := by decide +kernel
theorem dX12_block__0 : decode cX12_block_ 0 = .ok (.aload_n 0, 1) := by decide +kernel
theorem dX12_block__1 : decode cX12_block_ 1 = .ok (.getfield 359, 3) := by decide +kernel
theorem dX12_block__4 : decode cX12_block_ 4 = .ok (.ifCond .eq 17, 3) := by decide +kernel
theorem dX12_block__21 : decode cX12_block_ 21 = .ok (.iconst (-1), 1) := by decide +kernel
theorem dX12_block__22 : decode cX12_block_ 22 = .ok (.ireturn, 1) := by decide +kernel
theorem dX11_value_0 : decode cX11_value 0 = .ok (.aload_n 0, 1) := by decide +kernel
theorem dX11_value_1 : decode cX11_value 1 = .ok (.getfield 92, 3) := by decide +kernel
theorem dX11_value_4 : decode cX11_value 4 = .ok (.ifnull 26, 3) := by decide +kernel
theorem dX11_value_30 : decode cX11_value 30 = .ok (.iconst (-1), 1) := by decide +kernel
theorem dX11_value_31 : decode cX11_value 31 = .ok (.ireturn, 1) := by decide +kernel
theorem dX12_value_0 : decode cX12_value 0 = .ok (.aload_n 0, 1) := by decide +kernel
theorem dX12_value_1 : decode cX12_value 1 = .ok (.getfield 359, 3) := by decide +kernel
theorem dX12_value_4 : decode cX12_value 4 = .ok (.ifCond .eq 17, 3) := by decide +kernel
theorem dX12_value_21 : decode cX12_value 21 = .ok (.iconst (-1), 1) := by decide +kernel
theorem dX12_value_22 : decode cX12_value 22 = .ok (.ireturn, 1) := by decide +kernel
theorem dX11_ins_0 : decode cX11_ins 0 = .ok (.aload_n 0, 1) := by decide +kernel
theorem dX11_ins_1 : decode cX11_ins 1 = .ok (.getfield 92, 3) := by decide +kernel
theorem dX11_ins_4 : decode cX11_ins 4 = .ok (.ifnull 24, 3) := by decide +kernel
theorem dX11_ins_28 : decode cX11_ins 28 = .ok (.iconst (-1), 1) := by decide +kernel
theorem dX11_ins_29 : decode cX11_ins 29 = .ok (.ireturn, 1) := by decide +kernel
theorem dX12_ins_0 : decode cX12_ins 0 = .ok (.aload_n 0, 1) := by decide +kernel
theorem dX12_ins_1 : decode cX12_ins 1 = .ok (.iload_n 1, 1) := by decide +kernel
theorem dX12_ins_2 : decode cX12_ins 2 = .ok (.iload_n 2, 1) := by decide +kernel
theorem dX12_ins_3 : decode cX12_ins 3 = .ok (.invokevirtual 464, 3) := by decide +kernel
theorem dX12_ins_6 : decode cX12_ins 6 = .ok (.istore 4, 2) := by decide +kernel
theorem dX12_ins_8 : decode cX12_ins 8 = .ok (.iload 4, 2) := by decide +kernel
theorem dX12_ins_10 : decode cX12_ins 10 = .ok (.iconst (-1), 1) := by decide +kernel
theorem dX12_ins_11 : decode cX12_ins 11 = .ok (.if_icmp .ne 5, 3) := by decide +kernel
theorem dX12_ins_14 : decode cX12_ins 14 = .ok (.iconst (-1), 1) := by decide +kernel
theorem dX12_ins_15 : decode cX12_ins 15 = .ok (.ireturn, 1) := by decide +kernel
theorem dX12_insAt_0 : decode cX12_insAt 0 = .ok (.aload_n 0, 1) := by decide +kernel
theorem dX12_insAt_1 : decode cX12_insAt 1 = .ok (.getfield 359, 3) := by decide +kernel
theorem dX12_insAt_4 : decode cX12_insAt 4 = .ok (.ifCond .eq 32, 3) := by decide +kernel
theorem dX12_insAt_36 : decode cX12_insAt 36 = .ok (.iconst (-1), 1) := by decide +kernel
theorem dX12_insAt_37 : decode cX12_insAt 37 = .ok (.ireturn, 1) := by decide +kernel
theorem dX11_live_0 : decode cX11_live 0 = .ok (.aload_n 0, 1) := by decide +kernel
theorem dX11_live_1 : decode cX11_live 1 = .ok (.getfield 92, 3) := by decide +kernel
theorem dX11_live_4 : decode cX11_live 4 = .ok (.ifnull 30, 3) := by decide +kernel
theorem dX11_live_34 : decode cX11_live 34 = .ok (.iconst 0, 1) := by decide +kernel
theorem dX11_live_35 : decode cX11_live 35 = .ok (.ireturn, 1) := by decide +kernel
theorem dX12_live_0 : decode cX12_live 0 = .ok (.aload_n 0, 1) := by decide +kernel
theorem dX12_live_1 : decode cX12_live 1 = .ok (.iload_n 1, 1) := by decide +kernel
theorem dX12_live_2 : decode cX12_live 2 = .ok (.iload_n 2, 1) := by decide +kernel
theorem dX12_live_3 : decode cX12_live 3 = .ok (.invokevirtual 467, 3) := by decide +kernel
theorem dX12_live_6 : decode cX12_live 6 = .ok (.istore 4, 2) := by decide +kernel
theorem dX12_live_8 : decode cX12_live 8 = .ok (.iload 4, 2) := by decide +kernel
theorem dX12_live_10 : decode cX12_live 10 = .ok (.iconst (-1), 1) := by decide +kernel
theorem dX12_live_11 : decode cX12_live 11 = .ok (.if_icmp .eq 31, 3) := by decide +kernel
theorem dX12_live_42 : decode cX12_live 42 = .ok (.iconst 0, 1) := by decide +kernel
theorem dX12_live_43 : decode cX12_live 43 = .ok (.ireturn, 1) := by decide +kernel
theorem dX12_pointAt_0 : decode cX12_pointAt 0 = .ok (.aload_n 0, 1) := by decide +kernel
theorem dX12_pointAt_1 : decode cX12_pointAt 1 = .ok (.getfield 359, 3) := by decide +kernel
theorem dX12_pointAt_4 : decode cX12_pointAt 4 = .ok (.ifCond .eq 42, 3) := by decide +kernel
theorem dX12_pointAt_46 : decode cX12_pointAt 46 = .ok (.iconst (-1), 1) := by decide +kernel
theorem dX12_pointAt_47 : decode cX12_pointAt 47 = .ok (.ireturn, 1) := by decide +kernel
theorem dX11_pressure_0 : decode cX11_pressure 0 = .ok (.aload_n 0, 1) := by decide +kernel
theorem dX11_pressure_1 : decode cX11_pressure 1 = .ok (.getfield 92, 3) := by decide +kernel
theorem dX11_pressure_4 : decode cX11_pressure 4 = .ok (.ifnonnull 7, 3) := by decide +kernel
theorem dX11_pressure_7 : decode cX11_pressure 7 = .ok (.iconst (-1), 1) := by decide +kernel
theorem dX11_pressure_8 : decode cX11_pressure 8 = .ok (.goto 22, 3) := by decide +kernel
theorem dX11_pressure_30 : decode cX11_pressure 30 = .ok (.ireturn, 1) := by decide +kernel
theorem dX12_pressure_0 : decode cX12_pressure 0 = .ok (.aload_n 0, 1) := by decide +kernel
theorem dX12_pressure_1 : decode cX12_pressure 1 = .ok (.iload_n 1, 1) := by decide +kernel
theorem dX12_pressure_2 : decode cX12_pressure 2 = .ok (.iload_n 2, 1) := by decide +kernel
theorem dX12_pressure_3 : decode cX12_pressure 3 = .ok (.invokevirtual 467, 3) := by decide +kernel
theorem dX12_pressure_6 : decode cX12_pressure 6 = .ok (.istore_n 3, 1) := by decide +kernel
theorem dX12_pressure_7 : decode cX12_pressure 7 = .ok (.iload_n 3, 1) := by decide +kernel
theorem dX12_pressure_8 : decode cX12_pressure 8 = .ok (.iconst (-1), 1) := by decide +kernel
theorem dX12_pressure_9 : decode cX12_pressure 9 = .ok (.if_icmp .ne 7, 3) := by decide +kernel
theorem dX12_pressure_12 : decode cX12_pressure 12 = .ok (.iconst (-1), 1) := by decide +kernel
theorem dX12_pressure_13 : decode cX12_pressure 13 = .ok (.goto 9, 3) := by decide +kernel
theorem dX12_pressure_22 : decode cX12_pressure 22 = .ok (.ireturn, 1) := by decide +kernel
theorem dX11_clique_0 : decode cX11_clique 0 = .ok (.aload_n 0, 1) := by decide +kernel
theorem dX11_clique_1 : decode cX11_clique 1 = .ok (.getfield 92, 3) := by decide +kernel
theorem dX11_clique_4 : decode cX11_clique 4 = .ok (.ifnonnull 7, 3) := by decide +kernel
theorem dX11_clique_7 : decode cX11_clique 7 = .ok (.iconst (-1), 1) := by decide +kernel
theorem dX11_clique_8 : decode cX11_clique 8 = .ok (.goto 14, 3) := by decide +kernel
theorem dX11_clique_22 : decode cX11_clique 22 = .ok (.ireturn, 1) := by decide +kernel
theorem dX12_clique_0 : decode cX12_clique 0 = .ok (.aload_n 0, 1) := by decide +kernel
theorem dX12_clique_1 : decode cX12_clique 1 = .ok (.getfield 359, 3) := by decide +kernel
theorem dX12_clique_4 : decode cX12_clique 4 = .ok (.ifCond .eq 15, 3) := by decide +kernel
theorem dX12_clique_19 : decode cX12_clique 19 = .ok (.iconst (-1), 1) := by decide +kernel
theorem dX12_clique_20 : decode cX12_clique 20 = .ok (.ireturn, 1) := by decide +kernel
theorem dX11_meet_0 : decode cX11_meet 0 = .ok (.aload_n 0, 1) := by decide +kernel
theorem dX11_meet_1 : decode cX11_meet 1 = .ok (.getfield 92, 3) := by decide +kernel
theorem dX11_meet_4 : decode cX11_meet 4 = .ok (.ifnull 27, 3) := by decide +kernel
theorem dX11_meet_31 : decode cX11_meet 31 = .ok (.iconst 0, 1) := by decide +kernel
theorem dX11_meet_32 : decode cX11_meet 32 = .ok (.ireturn, 1) := by decide +kernel
theorem dX12_meet_0 : decode cX12_meet 0 = .ok (.aload_n 0, 1) := by decide +kernel
theorem dX12_meet_1 : decode cX12_meet 1 = .ok (.iload_n 1, 1) := by decide +kernel
theorem dX12_meet_2 : decode cX12_meet 2 = .ok (.invokevirtual 470, 3) := by decide +kernel
theorem dX12_meet_5 : decode cX12_meet 5 = .ok (.ifCond .eq 16, 3) := by decide +kernel
theorem dX12_meet_21 : decode cX12_meet 21 = .ok (.iconst 0, 1) := by decide +kernel
theorem dX12_meet_22 : decode cX12_meet 22 = .ok (.ireturn, 1) := by decide +kernel
theorem dX12_isValue_0 : decode cX12_isValue 0 = .ok (.aload_n 0, 1) := by decide +kernel
theorem dX12_isValue_1 : decode cX12_isValue 1 = .ok (.getfield 359, 3) := by decide +kernel
theorem dX12_isValue_4 : decode cX12_isValue 4 = .ok (.ifCond .eq 21, 3) := by decide +kernel
theorem dX12_isValue_25 : decode cX12_isValue 25 = .ok (.iconst 0, 1) := by decide +kernel
theorem dX12_isValue_26 : decode cX12_isValue 26 = .ok (.ireturn, 1) := by decide +kernel
theorem dX11_fit_0 : decode cX11_fit 0 = .ok (.aload_n 0, 1) := by decide +kernel
theorem dX11_fit_1 : decode cX11_fit 1 = .ok (.getfield 92, 3) := by decide +kernel
theorem dX11_fit_4 : decode cX11_fit 4 = .ok (.ifnull 15, 3) := by decide +kernel
theorem dX11_fit_19 : decode cX11_fit 19 = .ok (.iconst (-1), 1) := by decide +kernel
theorem dX11_fit_20 : decode cX11_fit 20 = .ok (.ireturn, 1) := by decide +kernel
theorem dX12_fit_0 : decode cX12_fit 0 = .ok (.aload_n 0, 1) := by decide +kernel
theorem dX12_fit_1 : decode cX12_fit 1 = .ok (.getfield 359, 3) := by decide +kernel
theorem dX12_fit_4 : decode cX12_fit 4 = .ok (.ifCond .eq 15, 3) := by decide +kernel
theorem dX12_fit_19 : decode cX12_fit 19 = .ok (.iconst (-1), 1) := by decide +kernel
theorem dX12_fit_20 : decode cX12_fit 20 = .ok (.ireturn, 1) := by decide +kernel
theorem dX11_colour_0 : decode cX11_colour 0 = .ok (.aload_n 0, 1) := by decide +kernel
theorem dX11_colour_1 : decode cX11_colour 1 = .ok (.getfield 92, 3) := by decide +kernel
theorem dX11_colour_4 : decode cX11_colour 4 = .ok (.ifnull 12, 3) := by decide +kernel
theorem dX11_colour_16 : decode cX11_colour 16 = .ok (.iconst (-1), 1) := by decide +kernel
theorem dX11_colour_17 : decode cX11_colour 17 = .ok (.ireturn, 1) := by decide +kernel
theorem dX12_colour_0 : decode cX12_colour 0 = .ok (.aload_n 0, 1) := by decide +kernel
theorem dX12_colour_1 : decode cX12_colour 1 = .ok (.getfield 359, 3) := by decide +kernel
theorem dX12_colour_4 : decode cX12_colour 4 = .ok (.ifCond .eq 12, 3) := by decide +kernel
theorem dX12_colour_16 : decode cX12_colour 16 = .ok (.iconst (-1), 1) := by decide +kernel
theorem dX12_colour_17 : decode cX12_colour 17 = .ok (.ireturn, 1) := by decide +kernel
theorem dX11_lower_0 : decode cX11_lower 0 = .ok (.aload_n 0, 1) := by decide +kernel
theorem dX11_lower_1 : decode cX11_lower 1 = .ok (.getfield 92, 3) := by decide +kernel
theorem dX11_lower_4 : decode cX11_lower 4 = .ok (.ifnull 13, 3) := by decide +kernel
theorem dX11_lower_17 : decode cX11_lower 17 = .ok (.iconst (-1), 1) := by decide +kernel
theorem dX11_lower_18 : decode cX11_lower 18 = .ok (.ireturn, 1) := by decide +kernel
theorem dX12_lower_0 : decode cX12_lower 0 = .ok (.aload_n 0, 1) := by decide +kernel
theorem dX12_lower_1 : decode cX12_lower 1 = .ok (.getfield 375, 3) := by decide +kernel
theorem dX12_lower_4 : decode cX12_lower 4 = .ok (.ifCond .ne 5, 3) := by decide +kernel
theorem dX12_lower_7 : decode cX12_lower 7 = .ok (.iconst (-1), 1) := by decide +kernel
theorem dX12_lower_8 : decode cX12_lower 8 = .ok (.ireturn, 1) := by decide +kernel
theorem dX11_code_0 : decode cX11_code 0 = .ok (.aload_n 0, 1) := by decide +kernel
theorem dX11_code_1 : decode cX11_code 1 = .ok (.getfield 98, 3) := by decide +kernel
theorem dX11_code_4 : decode cX11_code 4 = .ok (.ifnonnull 7, 3) := by decide +kernel
theorem dX11_code_7 : decode cX11_code 7 = .ok (.iconst (-1), 1) := by decide +kernel
theorem dX11_code_8 : decode cX11_code 8 = .ok (.goto 12, 3) := by decide +kernel
theorem dX11_code_20 : decode cX11_code 20 = .ok (.ireturn, 1) := by decide +kernel
theorem dX12_code_0 : decode cX12_code 0 = .ok (.aload_n 0, 1) := by decide +kernel
theorem dX12_code_1 : decode cX12_code 1 = .ok (.getfield 378, 3) := by decide +kernel
theorem dX12_code_4 : decode cX12_code 4 = .ok (.ifCond .eq 15, 3) := by decide +kernel
theorem dX12_code_19 : decode cX12_code 19 = .ok (.iconst (-1), 1) := by decide +kernel
theorem dX12_code_20 : decode cX12_code 20 = .ok (.ireturn, 1) := by decide +kernel
theorem dX11_input_0 : decode cX11_input 0 = .ok (.aload_n 0, 1) := by decide +kernel
theorem dX11_input_1 : decode cX11_input 1 = .ok (.getfield 216, 3) := by decide +kernel
theorem dX11_input_4 : decode cX11_input 4 = .ok (.ifCond .lt 15, 3) := by decide +kernel
theorem dX11_input_7 : decode cX11_input 7 = .ok (.aload_n 0, 1) := by decide +kernel
theorem dX11_input_8 : decode cX11_input 8 = .ok (.getfield 216, 3) := by decide +kernel
theorem dX11_input_11 : decode cX11_input 11 = .ok (.aload_n 0, 1) := by decide +kernel
theorem dX11_input_12 : decode cX11_input 12 = .ok (.getfield 13, 3) := by decide +kernel
theorem dX11_input_15 : decode cX11_input 15 = .ok (.arraylength, 1) := by decide +kernel
theorem dX11_input_16 : decode cX11_input 16 = .ok (.if_icmp .lt 5, 3) := by decide +kernel
theorem dX11_input_21 : decode cX11_input 21 = .ok (.aload_n 0, 1) := by decide +kernel
theorem dX11_input_22 : decode cX11_input 22 = .ok (.getfield 13, 3) := by decide +kernel
theorem dX11_input_25 : decode cX11_input 25 = .ok (.aload_n 0, 1) := by decide +kernel
theorem dX11_input_26 : decode cX11_input 26 = .ok (.getfield 216, 3) := by decide +kernel
theorem dX11_input_29 : decode cX11_input 29 = .ok (.iload_n 1, 1) := by decide +kernel
theorem dX11_input_30 : decode cX11_input 30 = .ok (.iastore, 1) := by decide +kernel
theorem dX11_input_31 : decode cX11_input 31 = .ok (.aload_n 0, 1) := by decide +kernel
theorem dX11_input_32 : decode cX11_input 32 = .ok (.dup, 1) := by decide +kernel
theorem dX11_input_33 : decode cX11_input 33 = .ok (.getfield 216, 3) := by decide +kernel
theorem dX11_input_36 : decode cX11_input 36 = .ok (.iconst 1, 1) := by decide +kernel
theorem dX11_input_37 : decode cX11_input 37 = .ok (.iadd, 1) := by decide +kernel
theorem dX11_input_38 : decode cX11_input 38 = .ok (.putfield 216, 3) := by decide +kernel
theorem dX11_input_41 : decode cX11_input 41 = .ok (.aload_n 0, 1) := by decide +kernel
theorem dX11_input_42 : decode cX11_input 42 = .ok (.getfield 216, 3) := by decide +kernel
theorem dX11_input_45 : decode cX11_input 45 = .ok (.ireturn, 1) := by decide +kernel
theorem dX12_input_0 : decode cX12_input 0 = .ok (.aload_n 0, 1) := by decide +kernel
theorem dX12_input_1 : decode cX12_input 1 = .ok (.getfield 519, 3) := by decide +kernel
theorem dX12_input_4 : decode cX12_input 4 = .ok (.bipush 50, 2) := by decide +kernel
theorem dX12_input_6 : decode cX12_input 6 = .ok (.if_icmp .ne 5, 3) := by decide +kernel
theorem dX12_input_11 : decode cX12_input 11 = .ok (.aload_n 0, 1) := by decide +kernel
theorem dX12_input_12 : decode cX12_input 12 = .ok (.getfield 245, 3) := by decide +kernel
theorem dX12_input_15 : decode cX12_input 15 = .ok (.aload_n 0, 1) := by decide +kernel
theorem dX12_input_16 : decode cX12_input 16 = .ok (.getfield 519, 3) := by decide +kernel
theorem dX12_input_19 : decode cX12_input 19 = .ok (.iload_n 1, 1) := by decide +kernel
theorem dX12_input_20 : decode cX12_input 20 = .ok (.iastore, 1) := by decide +kernel
theorem dX12_input_21 : decode cX12_input 21 = .ok (.aload_n 0, 1) := by decide +kernel
theorem dX12_input_22 : decode cX12_input 22 = .ok (.dup, 1) := by decide +kernel
theorem dX12_input_23 : decode cX12_input 23 = .ok (.getfield 519, 3) := by decide +kernel
theorem dX12_input_26 : decode cX12_input 26 = .ok (.iconst 1, 1) := by decide +kernel
theorem dX12_input_27 : decode cX12_input 27 = .ok (.iadd, 1) := by decide +kernel
theorem dX12_input_28 : decode cX12_input 28 = .ok (.putfield 519, 3) := by decide +kernel
theorem dX12_input_31 : decode cX12_input 31 = .ok (.aload_n 0, 1) := by decide +kernel
theorem dX12_input_32 : decode cX12_input 32 = .ok (.getfield 519, 3) := by decide +kernel
theorem dX12_input_35 : decode cX12_input 35 = .ok (.ireturn, 1) := by decide +kernel
theorem dX11_clear_0 : decode cX11_clear 0 = .ok (.aload_n 0, 1) := by decide +kernel
theorem dX11_clear_1 : decode cX11_clear 1 = .ok (.getfield 216, 3) := by decide +kernel
theorem dX11_clear_4 : decode cX11_clear 4 = .ok (.istore_n 1, 1) := by decide +kernel
theorem dX11_clear_5 : decode cX11_clear 5 = .ok (.aload_n 0, 1) := by decide +kernel
theorem dX11_clear_6 : decode cX11_clear 6 = .ok (.iconst 0, 1) := by decide +kernel
theorem dX11_clear_7 : decode cX11_clear 7 = .ok (.putfield 216, 3) := by decide +kernel
theorem dX11_clear_10 : decode cX11_clear 10 = .ok (.iload_n 1, 1) := by decide +kernel
theorem dX11_clear_11 : decode cX11_clear 11 = .ok (.ireturn, 1) := by decide +kernel
theorem dX12_clear_0 : decode cX12_clear 0 = .ok (.aload_n 0, 1) := by decide +kernel
theorem dX12_clear_1 : decode cX12_clear 1 = .ok (.getfield 519, 3) := by decide +kernel
theorem dX12_clear_4 : decode cX12_clear 4 = .ok (.istore_n 1, 1) := by decide +kernel
theorem dX12_clear_5 : decode cX12_clear 5 = .ok (.aload_n 0, 1) := by decide +kernel
theorem dX12_clear_6 : decode cX12_clear 6 = .ok (.iconst 0, 1) := by decide +kernel
theorem dX12_clear_7 : decode cX12_clear 7 = .ok (.putfield 519, 3) := by decide +kernel
theorem dX12_clear_10 : decode cX12_clear 10 = .ok (.iload_n 1, 1) := by decide +kernel
theorem dX12_clear_11 : decode cX12_clear 11 = .ok (.ireturn, 1) := by decide +kernel
theorem dX11_run_0 : decode cX11_run 0 = .ok (.aload_n 0, 1) := by decide +kernel
theorem dX11_run_1 : decode cX11_run 1 = .ok (.getfield 92, 3) := by decide +kernel
theorem dX11_run_4 : decode cX11_run 4 = .ok (.ifnull 15, 3) := by decide +kernel
theorem dX11_run_19 : decode cX11_run 19 = .ok (.iconst (-1), 1) := by decide +kernel
theorem dX11_run_20 : decode cX11_run 20 = .ok (.ireturn, 1) := by decide +kernel
theorem dX12_run_0 : decode cX12_run 0 = .ok (.iload_n 2, 1) := by decide +kernel
theorem dX12_run_1 : decode cX12_run 1 = .ok (.iconst 1, 1) := by decide +kernel
theorem dX12_run_2 : decode cX12_run 2 = .ok (.if_icmp .lt 31, 3) := by decide +kernel
theorem dX12_run_5 : decode cX12_run 5 = .ok (.iload_n 2, 1) := by decide +kernel
theorem dX12_run_6 : decode cX12_run 6 = .ok (.sipush 5000, 3) := by decide +kernel
theorem dX12_run_9 : decode cX12_run 9 = .ok (.if_icmp .gt 24, 3) := by decide +kernel
theorem dX12_run_12 : decode cX12_run 12 = .ok (.iload_n 1, 1) := by decide +kernel
theorem dX12_run_13 : decode cX12_run 13 = .ok (.ifCond .eq 13, 3) := by decide +kernel
theorem dX12_run_16 : decode cX12_run 16 = .ok (.aload_n 0, 1) := by decide +kernel
theorem dX12_run_17 : decode cX12_run 17 = .ok (.getfield 378, 3) := by decide +kernel
theorem dX12_run_20 : decode cX12_run 20 = .ok (.ifCond .eq 13, 3) := by decide +kernel
theorem dX12_run_26 : decode cX12_run 26 = .ok (.aload_n 0, 1) := by decide +kernel
theorem dX12_run_27 : decode cX12_run 27 = .ok (.getfield 359, 3) := by decide +kernel
theorem dX12_run_30 : decode cX12_run 30 = .ok (.ifCond .ne 5, 3) := by decide +kernel
theorem dX12_run_33 : decode cX12_run 33 = .ok (.iconst (-1), 1) := by decide +kernel
theorem dX12_run_34 : decode cX12_run 34 = .ok (.ireturn, 1) := by decide +kernel
theorem dX11_told_0 : decode cX11_told 0 = .ok (.iload_n 1, 1) := by decide +kernel
theorem dX11_told_1 : decode cX11_told 1 = .ok (.ifCond .eq 10, 3) := by decide +kernel
theorem dX11_told_4 : decode cX11_told 4 = .ok (.aload_n 0, 1) := by decide +kernel
theorem dX11_told_5 : decode cX11_told 5 = .ok (.getfield 116, 3) := by decide +kernel
theorem dX11_told_8 : decode cX11_told 8 = .ok (.goto 7, 3) := by decide +kernel
theorem dX11_told_11 : decode cX11_told 11 = .ok (.aload_n 0, 1) := by decide +kernel
theorem dX11_told_12 : decode cX11_told 12 = .ok (.getfield 107, 3) := by decide +kernel
theorem dX11_told_15 : decode cX11_told 15 = .ok (.astore_n 3, 1) := by decide +kernel
theorem dX11_told_16 : decode cX11_told 16 = .ok (.aload_n 3, 1) := by decide +kernel
theorem dX11_told_17 : decode cX11_told 17 = .ok (.ifnonnull 7, 3) := by decide +kernel
theorem dX11_told_20 : decode cX11_told 20 = .ok (.iconst (-1), 1) := by decide +kernel
theorem dX11_told_21 : decode cX11_told 21 = .ok (.goto 8, 3) := by decide +kernel
theorem dX11_told_29 : decode cX11_told 29 = .ok (.ireturn, 1) := by decide +kernel
theorem dX12_told_0 : decode cX12_told 0 = .ok (.iload_n 1, 1) := by decide +kernel
theorem dX12_told_1 : decode cX12_told 1 = .ok (.ifCond .eq 7, 3) := by decide +kernel
