theorem dX9_cut_231 : decode cX9_cut 231 = .ok (.goto (-30), 3) := by decide +kernel
theorem dX9_cut_234 : decode cX9_cut 234 = .ok (.aload_n 0, 1) := by decide +kernel
theorem dX9_cut_235 : decode cX9_cut 235 = .ok (.iconst 1, 1) := by decide +kernel
theorem dX9_cut_236 : decode cX9_cut 236 = .ok (.putfield 183, 3) := by decide +kernel
theorem dX9_cut_239 : decode cX9_cut 239 = .ok (.iload_n 3, 1) := by decide +kernel
theorem dX9_cut_240 : decode cX9_cut 240 = .ok (.ireturn, 1) := by decide +kernel
set_option maxRecDepth 20000 in
theorem ggX9_mean_X9_in : GoodIn wsX9_mean wsX9_in := goodIn_sub (am_cons (List.mem_cons_of_mem _ (List.mem_append_left _ (List.mem_of_getElem? (i := 8) rfl))) (am_nil)) (by decide +kernel)
set_option maxRecDepth 20000 in
theorem gX9_mean_X9_in : GoodIn wsX9_mean (va_wsS RX9 96 yX9_in wsX9_in) := goodIn_app (goodIn_sub (am_cons (List.mem_cons_of_mem _ (List.mem_append_left _ (List.mem_of_getElem? (i := 5) rfl))) (am_cons (List.mem_cons_of_mem _ (List.mem_append_left _ (List.mem_of_getElem? (i := 6) rfl))) (am_cons (List.mem_cons_of_mem _ (List.mem_append_left _ (List.mem_of_getElem? (i := 7) rfl))) am_nil))) (by decide +kernel)) ggX9_mean_X9_in
theorem dX9_mean_0 : decode cX9_mean 0 = .ok (.iload_n 1, 1) := by decide +kernel
theorem dX9_mean_1 : decode cX9_mean 1 = .ok (.i2l, 1) := by decide +kernel
theorem dX9_mean_2 : decode cX9_mean 2 = .ok (.lconst 0, 1) := by decide +kernel
theorem dX9_mean_3 : decode cX9_mean 3 = .ok (.ldc2_w 187, 3) := by decide +kernel
theorem dX9_mean_6 : decode cX9_mean 6 = .ok (.invokestatic 96, 3) := by decide +kernel
theorem dX9_mean_9 : decode cX9_mean 9 = .ok (.ifCond .ne 8, 3) := by decide +kernel
theorem dX9_mean_12 : decode cX9_mean 12 = .ok (.ldc 189, 2) := by decide +kernel
theorem dX9_mean_14 : decode cX9_mean 14 = .ok (.goto 21, 3) := by decide +kernel
theorem dX9_mean_17 : decode cX9_mean 17 = .ok (.aload_n 0, 1) := by decide +kernel
theorem dX9_mean_18 : decode cX9_mean 18 = .ok (.getfield 183, 3) := by decide +kernel
theorem dX9_mean_21 : decode cX9_mean 21 = .ok (.ifCond .eq 12, 3) := by decide +kernel
theorem dX9_mean_24 : decode cX9_mean 24 = .ok (.aload_n 0, 1) := by decide +kernel
theorem dX9_mean_25 : decode cX9_mean 25 = .ok (.getfield 54, 3) := by decide +kernel
theorem dX9_mean_28 : decode cX9_mean 28 = .ok (.iload_n 1, 1) := by decide +kernel
theorem dX9_mean_29 : decode cX9_mean 29 = .ok (.iaload, 1) := by decide +kernel
theorem dX9_mean_30 : decode cX9_mean 30 = .ok (.goto 5, 3) := by decide +kernel
theorem dX9_mean_33 : decode cX9_mean 33 = .ok (.ldc 190, 2) := by decide +kernel
theorem dX9_mean_35 : decode cX9_mean 35 = .ok (.ireturn, 1) := by decide +kernel
theorem dX9_wave_0 : decode cX9_wave 0 = .ok (.iload_n 0, 1) := by decide +kernel
theorem dX9_wave_1 : decode cX9_wave 1 = .ok (.bipush 32, 2) := by decide +kernel
theorem dX9_wave_3 : decode cX9_wave 3 = .ok (.irem, 1) := by decide +kernel
theorem dX9_wave_4 : decode cX9_wave 4 = .ok (.istore_n 1, 1) := by decide +kernel
theorem dX9_wave_5 : decode cX9_wave 5 = .ok (.iload_n 1, 1) := by decide +kernel
theorem dX9_wave_6 : decode cX9_wave 6 = .ok (.bipush 16, 2) := by decide +kernel
theorem dX9_wave_8 : decode cX9_wave 8 = .ok (.if_icmp .le 10, 3) := by decide +kernel
theorem dX9_wave_11 : decode cX9_wave 11 = .ok (.bipush 32, 2) := by decide +kernel
theorem dX9_wave_13 : decode cX9_wave 13 = .ok (.iload_n 1, 1) := by decide +kernel
theorem dX9_wave_14 : decode cX9_wave 14 = .ok (.isub, 1) := by decide +kernel
theorem dX9_wave_15 : decode cX9_wave 15 = .ok (.goto 4, 3) := by decide +kernel
theorem dX9_wave_18 : decode cX9_wave 18 = .ok (.iload_n 1, 1) := by decide +kernel
theorem dX9_wave_19 : decode cX9_wave 19 = .ok (.istore_n 1, 1) := by decide +kernel
theorem dX9_wave_20 : decode cX9_wave 20 = .ok (.iload_n 1, 1) := by decide +kernel
theorem dX9_wave_21 : decode cX9_wave 21 = .ok (.bipush 8, 2) := by decide +kernel
theorem dX9_wave_23 : decode cX9_wave 23 = .ok (.if_icmp .le 7, 3) := by decide +kernel
theorem dX9_wave_26 : decode cX9_wave 26 = .ok (.iconst 1, 1) := by decide +kernel
theorem dX9_wave_27 : decode cX9_wave 27 = .ok (.goto 4, 3) := by decide +kernel
theorem dX9_wave_30 : decode cX9_wave 30 = .ok (.iconst 0, 1) := by decide +kernel
theorem dX9_wave_31 : decode cX9_wave 31 = .ok (.istore_n 2, 1) := by decide +kernel
theorem dX9_wave_32 : decode cX9_wave 32 = .ok (.iload_n 2, 1) := by decide +kernel
theorem dX9_wave_33 : decode cX9_wave 33 = .ok (.ifCond .eq 10, 3) := by decide +kernel
theorem dX9_wave_36 : decode cX9_wave 36 = .ok (.bipush 16, 2) := by decide +kernel
theorem dX9_wave_38 : decode cX9_wave 38 = .ok (.iload_n 1, 1) := by decide +kernel
theorem dX9_wave_39 : decode cX9_wave 39 = .ok (.isub, 1) := by decide +kernel
theorem dX9_wave_40 : decode cX9_wave 40 = .ok (.goto 4, 3) := by decide +kernel
theorem dX9_wave_43 : decode cX9_wave 43 = .ok (.iload_n 1, 1) := by decide +kernel
theorem dX9_wave_44 : decode cX9_wave 44 = .ok (.istore_n 1, 1) := by decide +kernel
theorem dX9_wave_45 : decode cX9_wave 45 = .ok (.iload_n 1, 1) := by decide +kernel
theorem dX9_wave_46 : decode cX9_wave 46 = .ok (.ifCond .ne 9, 3) := by decide +kernel
theorem dX9_wave_49 : decode cX9_wave 49 = .ok (.sipush 1000, 3) := by decide +kernel
theorem dX9_wave_52 : decode cX9_wave 52 = .ok (.goto 83, 3) := by decide +kernel
theorem dX9_wave_55 : decode cX9_wave 55 = .ok (.iload_n 1, 1) := by decide +kernel
theorem dX9_wave_56 : decode cX9_wave 56 = .ok (.iconst 1, 1) := by decide +kernel
theorem dX9_wave_57 : decode cX9_wave 57 = .ok (.if_icmp .ne 9, 3) := by decide +kernel
theorem dX9_wave_60 : decode cX9_wave 60 = .ok (.sipush 981, 3) := by decide +kernel
theorem dX9_wave_63 : decode cX9_wave 63 = .ok (.goto 72, 3) := by decide +kernel
theorem dX9_wave_66 : decode cX9_wave 66 = .ok (.iload_n 1, 1) := by decide +kernel
theorem dX9_wave_67 : decode cX9_wave 67 = .ok (.iconst 2, 1) := by decide +kernel
theorem dX9_wave_68 : decode cX9_wave 68 = .ok (.if_icmp .ne 9, 3) := by decide +kernel
theorem dX9_wave_71 : decode cX9_wave 71 = .ok (.sipush 924, 3) := by decide +kernel
theorem dX9_wave_74 : decode cX9_wave 74 = .ok (.goto 61, 3) := by decide +kernel
theorem dX9_wave_77 : decode cX9_wave 77 = .ok (.iload_n 1, 1) := by decide +kernel
theorem dX9_wave_78 : decode cX9_wave 78 = .ok (.iconst 3, 1) := by decide +kernel
theorem dX9_wave_79 : decode cX9_wave 79 = .ok (.if_icmp .ne 9, 3) := by decide +kernel
theorem dX9_wave_82 : decode cX9_wave 82 = .ok (.sipush 831, 3) := by decide +kernel
theorem dX9_wave_85 : decode cX9_wave 85 = .ok (.goto 50, 3) := by decide +kernel
theorem dX9_wave_88 : decode cX9_wave 88 = .ok (.iload_n 1, 1) := by decide +kernel
theorem dX9_wave_89 : decode cX9_wave 89 = .ok (.iconst 4, 1) := by decide +kernel
theorem dX9_wave_90 : decode cX9_wave 90 = .ok (.if_icmp .ne 9, 3) := by decide +kernel
theorem dX9_wave_93 : decode cX9_wave 93 = .ok (.sipush 707, 3) := by decide +kernel
theorem dX9_wave_96 : decode cX9_wave 96 = .ok (.goto 39, 3) := by decide +kernel
theorem dX9_wave_99 : decode cX9_wave 99 = .ok (.iload_n 1, 1) := by decide +kernel
theorem dX9_wave_100 : decode cX9_wave 100 = .ok (.iconst 5, 1) := by decide +kernel
theorem dX9_wave_101 : decode cX9_wave 101 = .ok (.if_icmp .ne 9, 3) := by decide +kernel
theorem dX9_wave_104 : decode cX9_wave 104 = .ok (.sipush 556, 3) := by decide +kernel
theorem dX9_wave_107 : decode cX9_wave 107 = .ok (.goto 28, 3) := by decide +kernel
theorem dX9_wave_110 : decode cX9_wave 110 = .ok (.iload_n 1, 1) := by decide +kernel
theorem dX9_wave_111 : decode cX9_wave 111 = .ok (.bipush 6, 2) := by decide +kernel
theorem dX9_wave_113 : decode cX9_wave 113 = .ok (.if_icmp .ne 9, 3) := by decide +kernel
theorem dX9_wave_116 : decode cX9_wave 116 = .ok (.sipush 383, 3) := by decide +kernel
theorem dX9_wave_119 : decode cX9_wave 119 = .ok (.goto 16, 3) := by decide +kernel
theorem dX9_wave_122 : decode cX9_wave 122 = .ok (.iload_n 1, 1) := by decide +kernel
theorem dX9_wave_123 : decode cX9_wave 123 = .ok (.bipush 7, 2) := by decide +kernel
theorem dX9_wave_125 : decode cX9_wave 125 = .ok (.if_icmp .ne 9, 3) := by decide +kernel
theorem dX9_wave_128 : decode cX9_wave 128 = .ok (.sipush 195, 3) := by decide +kernel
theorem dX9_wave_131 : decode cX9_wave 131 = .ok (.goto 4, 3) := by decide +kernel
theorem dX9_wave_134 : decode cX9_wave 134 = .ok (.iconst 0, 1) := by decide +kernel
theorem dX9_wave_135 : decode cX9_wave 135 = .ok (.istore_n 3, 1) := by decide +kernel
theorem dX9_wave_136 : decode cX9_wave 136 = .ok (.iload_n 2, 1) := by decide +kernel
theorem dX9_wave_137 : decode cX9_wave 137 = .ok (.ifCond .eq 8, 3) := by decide +kernel
theorem dX9_wave_140 : decode cX9_wave 140 = .ok (.iload_n 3, 1) := by decide +kernel
theorem dX9_wave_141 : decode cX9_wave 141 = .ok (.ineg, 1) := by decide +kernel
theorem dX9_wave_142 : decode cX9_wave 142 = .ok (.goto 4, 3) := by decide +kernel
theorem dX9_wave_145 : decode cX9_wave 145 = .ok (.iload_n 3, 1) := by decide +kernel
theorem dX9_wave_146 : decode cX9_wave 146 = .ok (.ireturn, 1) := by decide +kernel
set_option maxRecDepth 20000 in
theorem ggX9_strength_X9_in : GoodIn wsX9_strength wsX9_in := goodIn_sub (am_cons (List.mem_cons_of_mem _ (List.mem_append_left _ (List.mem_of_getElem? (i := 9) rfl))) (am_nil)) (by decide +kernel)
set_option maxRecDepth 20000 in
theorem gX9_strength_X9_in : GoodIn wsX9_strength (va_wsS RX9 96 yX9_in wsX9_in) := goodIn_app (goodIn_sub (am_cons (List.mem_cons_of_mem _ (List.mem_append_left _ (List.mem_of_getElem? (i := 6) rfl))) (am_cons (List.mem_cons_of_mem _ (List.mem_append_left _ (List.mem_of_getElem? (i := 7) rfl))) (am_cons (List.mem_cons_of_mem _ (List.mem_append_left _ (List.mem_of_getElem? (i := 8) rfl))) am_nil))) (by decide +kernel)) ggX9_strength_X9_in
set_option maxRecDepth 20000 in
theorem ggX9_strength_X9_wave : GoodIn wsX9_strength wsX9_wave := goodIn_sub (am_cons (List.mem_cons_of_mem _ (List.mem_append_left _ (List.mem_of_getElem? (i := 12) rfl))) (am_nil)) (by decide +kernel)
set_option maxRecDepth 20000 in
theorem gX9_strength_X9_wave : GoodIn wsX9_strength (va_wsS RX9 195 yX9_wave wsX9_wave) := goodIn_app (goodIn_sub (am_cons (List.mem_cons_of_mem _ (List.mem_append_left _ (List.mem_of_getElem? (i := 10) rfl))) (am_cons (List.mem_cons_of_mem _ (List.mem_append_left _ (List.mem_of_getElem? (i := 11) rfl))) (am_cons (List.mem_cons_of_mem _ (List.mem_append_left _ (List.mem_of_getElem? (i := 8) rfl))) am_nil))) (by decide +kernel)) ggX9_strength_X9_wave
theorem dX9_strength_0 : decode cX9_strength 0 = .ok (.iload_n 1, 1) := by decide +kernel
theorem dX9_strength_1 : decode cX9_strength 1 = .ok (.i2l, 1) := by decide +kernel
theorem dX9_strength_2 : decode cX9_strength 2 = .ok (.lconst 0, 1) := by decide +kernel
theorem dX9_strength_3 : decode cX9_strength 3 = .ok (.ldc2_w 191, 3) := by decide +kernel
theorem dX9_strength_6 : decode cX9_strength 6 = .ok (.invokestatic 96, 3) := by decide +kernel
theorem dX9_strength_9 : decode cX9_strength 9 = .ok (.ifCond .ne 7, 3) := by decide +kernel
theorem dX9_strength_12 : decode cX9_strength 12 = .ok (.ldc2_w 117, 3) := by decide +kernel
theorem dX9_strength_15 : decode cX9_strength 15 = .ok (.lreturn, 1) := by decide +kernel
theorem dX9_strength_16 : decode cX9_strength 16 = .ok (.aload_n 0, 1) := by decide +kernel
theorem dX9_strength_17 : decode cX9_strength 17 = .ok (.getfield 183, 3) := by decide +kernel
theorem dX9_strength_20 : decode cX9_strength 20 = .ok (.ifCond .ne 7, 3) := by decide +kernel
theorem dX9_strength_23 : decode cX9_strength 23 = .ok (.ldc2_w 193, 3) := by decide +kernel
theorem dX9_strength_26 : decode cX9_strength 26 = .ok (.lreturn, 1) := by decide +kernel
theorem dX9_strength_27 : decode cX9_strength 27 = .ok (.lconst 0, 1) := by decide +kernel
theorem dX9_strength_28 : decode cX9_strength 28 = .ok (.lstore_n 2, 1) := by decide +kernel
theorem dX9_strength_29 : decode cX9_strength 29 = .ok (.lconst 0, 1) := by decide +kernel
theorem dX9_strength_30 : decode cX9_strength 30 = .ok (.lstore 4, 2) := by decide +kernel
theorem dX9_strength_32 : decode cX9_strength 32 = .ok (.iconst 0, 1) := by decide +kernel
theorem dX9_strength_33 : decode cX9_strength 33 = .ok (.istore 6, 2) := by decide +kernel
theorem dX9_strength_35 : decode cX9_strength 35 = .ok (.iload 6, 2) := by decide +kernel
theorem dX9_strength_37 : decode cX9_strength 37 = .ok (.bipush 32, 2) := by decide +kernel
theorem dX9_strength_39 : decode cX9_strength 39 = .ok (.if_icmp .ge 54, 3) := by decide +kernel
theorem dX9_strength_42 : decode cX9_strength 42 = .ok (.lload_n 2, 1) := by decide +kernel
theorem dX9_strength_43 : decode cX9_strength 43 = .ok (.aload_n 0, 1) := by decide +kernel
theorem dX9_strength_44 : decode cX9_strength 44 = .ok (.getfield 54, 3) := by decide +kernel
theorem dX9_strength_47 : decode cX9_strength 47 = .ok (.iload 6, 2) := by decide +kernel
theorem dX9_strength_49 : decode cX9_strength 49 = .ok (.iaload, 1) := by decide +kernel
theorem dX9_strength_50 : decode cX9_strength 50 = .ok (.i2l, 1) := by decide +kernel
theorem dX9_strength_51 : decode cX9_strength 51 = .ok (.iload_n 1, 1) := by decide +kernel
theorem dX9_strength_52 : decode cX9_strength 52 = .ok (.iload 6, 2) := by decide +kernel
theorem dX9_strength_54 : decode cX9_strength 54 = .ok (.imul, 1) := by decide +kernel
theorem dX9_strength_55 : decode cX9_strength 55 = .ok (.invokestatic 195, 3) := by decide +kernel
theorem dX9_strength_58 : decode cX9_strength 58 = .ok (.i2l, 1) := by decide +kernel
theorem dX9_strength_59 : decode cX9_strength 59 = .ok (.lmul, 1) := by decide +kernel
theorem dX9_strength_60 : decode cX9_strength 60 = .ok (.ladd, 1) := by decide +kernel
theorem dX9_strength_61 : decode cX9_strength 61 = .ok (.lstore_n 2, 1) := by decide +kernel
theorem dX9_strength_62 : decode cX9_strength 62 = .ok (.lload 4, 2) := by decide +kernel
theorem dX9_strength_64 : decode cX9_strength 64 = .ok (.aload_n 0, 1) := by decide +kernel
theorem dX9_strength_65 : decode cX9_strength 65 = .ok (.getfield 54, 3) := by decide +kernel
theorem dX9_strength_68 : decode cX9_strength 68 = .ok (.iload 6, 2) := by decide +kernel
theorem dX9_strength_70 : decode cX9_strength 70 = .ok (.iaload, 1) := by decide +kernel
theorem dX9_strength_71 : decode cX9_strength 71 = .ok (.i2l, 1) := by decide +kernel
theorem dX9_strength_72 : decode cX9_strength 72 = .ok (.iload_n 1, 1) := by decide +kernel
theorem dX9_strength_73 : decode cX9_strength 73 = .ok (.iload 6, 2) := by decide +kernel
theorem dX9_strength_75 : decode cX9_strength 75 = .ok (.imul, 1) := by decide +kernel
theorem dX9_strength_76 : decode cX9_strength 76 = .ok (.bipush 24, 2) := by decide +kernel
theorem dX9_strength_78 : decode cX9_strength 78 = .ok (.iadd, 1) := by decide +kernel
theorem dX9_strength_79 : decode cX9_strength 79 = .ok (.invokestatic 195, 3) := by decide +kernel
theorem dX9_strength_82 : decode cX9_strength 82 = .ok (.i2l, 1) := by decide +kernel
theorem dX9_strength_83 : decode cX9_strength 83 = .ok (.lmul, 1) := by decide +kernel
theorem dX9_strength_84 : decode cX9_strength 84 = .ok (.ladd, 1) := by decide +kernel
theorem dX9_strength_85 : decode cX9_strength 85 = .ok (.lstore 4, 2) := by decide +kernel
theorem dX9_strength_87 : decode cX9_strength 87 = .ok (.iinc 6 1, 3) := by decide +kernel
theorem dX9_strength_90 : decode cX9_strength 90 = .ok (.goto (-55), 3) := by decide +kernel
theorem dX9_strength_93 : decode cX9_strength 93 = .ok (.lload_n 2, 1) := by decide +kernel
theorem dX9_strength_94 : decode cX9_strength 94 = .ok (.lload_n 2, 1) := by decide +kernel
theorem dX9_strength_95 : decode cX9_strength 95 = .ok (.lmul, 1) := by decide +kernel
theorem dX9_strength_96 : decode cX9_strength 96 = .ok (.lload 4, 2) := by decide +kernel
theorem dX9_strength_98 : decode cX9_strength 98 = .ok (.lload 4, 2) := by decide +kernel
theorem dX9_strength_100 : decode cX9_strength 100 = .ok (.lmul, 1) := by decide +kernel
theorem dX9_strength_101 : decode cX9_strength 101 = .ok (.ladd, 1) := by decide +kernel
theorem dX9_strength_102 : decode cX9_strength 102 = .ok (.ldc2_w 146, 3) := by decide +kernel
theorem dX9_strength_105 : decode cX9_strength 105 = .ok (.ldiv, 1) := by decide +kernel
theorem dX9_strength_106 : decode cX9_strength 106 = .ok (.lreturn, 1) := by decide +kernel
set_option maxRecDepth 20000 in
theorem ggX9_line_X9_in : GoodIn wsX9_line wsX9_in := goodIn_sub (am_cons (List.mem_cons_of_mem _ (List.mem_append_left _ (List.mem_of_getElem? (i := 7) rfl))) (am_nil)) (by decide +kernel)
set_option maxRecDepth 20000 in
theorem gX9_line_X9_in : GoodIn wsX9_line (va_wsS RX9 96 yX9_in wsX9_in) := goodIn_app (goodIn_sub (am_cons (List.mem_cons_of_mem _ (List.mem_append_left _ (List.mem_of_getElem? (i := 4) rfl))) (am_cons (List.mem_cons_of_mem _ (List.mem_append_left _ (List.mem_of_getElem? (i := 5) rfl))) (am_cons (List.mem_cons_of_mem _ (List.mem_append_left _ (List.mem_of_getElem? (i := 6) rfl))) am_nil))) (by decide +kernel)) ggX9_line_X9_in
theorem dX9_line_0 : decode cX9_line 0 = .ok (.iload_n 1, 1) := by decide +kernel
theorem dX9_line_1 : decode cX9_line 1 = .ok (.i2l, 1) := by decide +kernel
theorem dX9_line_2 : decode cX9_line 2 = .ok (.lconst 1, 1) := by decide +kernel
theorem dX9_line_3 : decode cX9_line 3 = .ok (.ldc2_w 198, 3) := by decide +kernel
theorem dX9_line_6 : decode cX9_line 6 = .ok (.invokestatic 96, 3) := by decide +kernel
theorem dX9_line_9 : decode cX9_line 9 = .ok (.ifCond .eq 15, 3) := by decide +kernel
theorem dX9_line_12 : decode cX9_line 12 = .ok (.iload_n 2, 1) := by decide +kernel
theorem dX9_line_13 : decode cX9_line 13 = .ok (.i2l, 1) := by decide +kernel
theorem dX9_line_14 : decode cX9_line 14 = .ok (.lconst 1, 1) := by decide +kernel
theorem dX9_line_15 : decode cX9_line 15 = .ok (.ldc2_w 198, 3) := by decide +kernel
theorem dX9_line_18 : decode cX9_line 18 = .ok (.invokestatic 96, 3) := by decide +kernel
theorem dX9_line_21 : decode cX9_line 21 = .ok (.ifCond .ne 5, 3) := by decide +kernel
theorem dX9_line_24 : decode cX9_line 24 = .ok (.iconst (-1), 1) := by decide +kernel
theorem dX9_line_25 : decode cX9_line 25 = .ok (.ireturn, 1) := by decide +kernel
theorem dX9_line_26 : decode cX9_line 26 = .ok (.aload_n 0, 1) := by decide +kernel
theorem dX9_line_27 : decode cX9_line 27 = .ok (.getfield 200, 3) := by decide +kernel
theorem dX9_line_30 : decode cX9_line 30 = .ok (.bipush 12, 2) := by decide +kernel
theorem dX9_line_32 : decode cX9_line 32 = .ok (.if_icmp .ne 6, 3) := by decide +kernel
theorem dX9_line_35 : decode cX9_line 35 = .ok (.bipush (-3), 2) := by decide +kernel
theorem dX9_line_37 : decode cX9_line 37 = .ok (.ireturn, 1) := by decide +kernel
theorem dX9_line_38 : decode cX9_line 38 = .ok (.aload_n 0, 1) := by decide +kernel
theorem dX9_line_39 : decode cX9_line 39 = .ok (.getfield 60, 3) := by decide +kernel
theorem dX9_line_42 : decode cX9_line 42 = .ok (.aload_n 0, 1) := by decide +kernel
theorem dX9_line_43 : decode cX9_line 43 = .ok (.getfield 200, 3) := by decide +kernel
theorem dX9_line_46 : decode cX9_line 46 = .ok (.iload_n 1, 1) := by decide +kernel
theorem dX9_line_47 : decode cX9_line 47 = .ok (.iastore, 1) := by decide +kernel
theorem dX9_line_48 : decode cX9_line 48 = .ok (.aload_n 0, 1) := by decide +kernel
theorem dX9_line_49 : decode cX9_line 49 = .ok (.getfield 63, 3) := by decide +kernel
theorem dX9_line_52 : decode cX9_line 52 = .ok (.aload_n 0, 1) := by decide +kernel
theorem dX9_line_53 : decode cX9_line 53 = .ok (.getfield 200, 3) := by decide +kernel
theorem dX9_line_56 : decode cX9_line 56 = .ok (.iload_n 2, 1) := by decide +kernel
theorem dX9_line_57 : decode cX9_line 57 = .ok (.iastore, 1) := by decide +kernel
theorem dX9_line_58 : decode cX9_line 58 = .ok (.aload_n 0, 1) := by decide +kernel
theorem dX9_line_59 : decode cX9_line 59 = .ok (.dup, 1) := by decide +kernel
theorem dX9_line_60 : decode cX9_line 60 = .ok (.getfield 200, 3) := by decide +kernel
theorem dX9_line_63 : decode cX9_line 63 = .ok (.iconst 1, 1) := by decide +kernel
theorem dX9_line_64 : decode cX9_line 64 = .ok (.iadd, 1) := by decide +kernel
theorem dX9_line_65 : decode cX9_line 65 = .ok (.putfield 200, 3) := by decide +kernel
theorem dX9_line_68 : decode cX9_line 68 = .ok (.aload_n 0, 1) := by decide +kernel
theorem dX9_line_69 : decode cX9_line 69 = .ok (.getfield 200, 3) := by decide +kernel
theorem dX9_line_72 : decode cX9_line 72 = .ok (.iconst 1, 1) := by decide +kernel
theorem dX9_line_73 : decode cX9_line 73 = .ok (.isub, 1) := by decide +kernel
theorem dX9_line_74 : decode cX9_line 74 = .ok (.ireturn, 1) := by decide +kernel
theorem dX9_unline_0 : decode cX9_unline 0 = .ok (.aload_n 0, 1) := by decide +kernel
theorem dX9_unline_1 : decode cX9_unline 1 = .ok (.getfield 200, 3) := by decide +kernel
theorem dX9_unline_4 : decode cX9_unline 4 = .ok (.istore_n 1, 1) := by decide +kernel
theorem dX9_unline_5 : decode cX9_unline 5 = .ok (.aload_n 0, 1) := by decide +kernel
theorem dX9_unline_6 : decode cX9_unline 6 = .ok (.iconst 0, 1) := by decide +kernel
theorem dX9_unline_7 : decode cX9_unline 7 = .ok (.putfield 200, 3) := by decide +kernel
theorem dX9_unline_10 : decode cX9_unline 10 = .ok (.iload_n 1, 1) := by decide +kernel
theorem dX9_unline_11 : decode cX9_unline 11 = .ok (.ireturn, 1) := by decide +kernel
set_option maxRecDepth 20000 in
theorem ggX9_slip_X9_in : GoodIn wsX9_slip wsX9_in := goodIn_sub (am_cons (List.mem_cons_of_mem _ (List.mem_append_left _ (List.mem_of_getElem? (i := 5) rfl))) (am_nil)) (by decide +kernel)
set_option maxRecDepth 20000 in
theorem gX9_slip_X9_in : GoodIn wsX9_slip (va_wsS RX9 96 yX9_in wsX9_in) := goodIn_app (goodIn_sub (am_cons (List.mem_cons_of_mem _ (List.mem_append_left _ (List.mem_of_getElem? (i := 2) rfl))) (am_cons (List.mem_cons_of_mem _ (List.mem_append_left _ (List.mem_of_getElem? (i := 3) rfl))) (am_cons (List.mem_cons_of_mem _ (List.mem_append_left _ (List.mem_of_getElem? (i := 4) rfl))) am_nil))) (by decide +kernel)) ggX9_slip_X9_in
theorem dX9_slip_0 : decode cX9_slip 0 = .ok (.iload_n 1, 1) := by decide +kernel
theorem dX9_slip_1 : decode cX9_slip 1 = .ok (.i2l, 1) := by decide +kernel
theorem dX9_slip_2 : decode cX9_slip 2 = .ok (.lconst 0, 1) := by decide +kernel
theorem dX9_slip_3 : decode cX9_slip 3 = .ok (.ldc2_w 112, 3) := by decide +kernel
theorem dX9_slip_6 : decode cX9_slip 6 = .ok (.invokestatic 96, 3) := by decide +kernel
theorem dX9_slip_9 : decode cX9_slip 9 = .ok (.ifCond .ne 5, 3) := by decide +kernel
theorem dX9_slip_12 : decode cX9_slip 12 = .ok (.iconst (-1), 1) := by decide +kernel
theorem dX9_slip_13 : decode cX9_slip 13 = .ok (.ireturn, 1) := by decide +kernel
theorem dX9_slip_14 : decode cX9_slip 14 = .ok (.aload_n 0, 1) := by decide +kernel
theorem dX9_slip_15 : decode cX9_slip 15 = .ok (.getfield 66, 3) := by decide +kernel
theorem dX9_slip_18 : decode cX9_slip 18 = .ok (.istore_n 2, 1) := by decide +kernel
theorem dX9_slip_19 : decode cX9_slip 19 = .ok (.aload_n 0, 1) := by decide +kernel
theorem dX9_slip_20 : decode cX9_slip 20 = .ok (.iload_n 1, 1) := by decide +kernel
theorem dX9_slip_21 : decode cX9_slip 21 = .ok (.putfield 66, 3) := by decide +kernel
theorem dX9_slip_24 : decode cX9_slip 24 = .ok (.iload_n 2, 1) := by decide +kernel
theorem dX9_slip_25 : decode cX9_slip 25 = .ok (.ireturn, 1) := by decide +kernel
set_option maxRecDepth 20000 in
theorem ggX9_nearOf_X9_findTone : GoodIn wsX9_nearOf wsX9_findTone := goodIn_sub (am_cons (List.mem_cons_of_mem _ (List.mem_append_left _ (List.mem_append_left _ (List.mem_of_getElem? (i := 11) rfl)))) (am_app (am_app (am_cons (List.mem_cons_of_mem _ (List.mem_append_left _ (List.mem_append_left _ (List.mem_of_getElem? (i := 12) rfl)))) (am_cons (List.mem_cons_of_mem _ (List.mem_append_left _ (List.mem_append_left _ (List.mem_of_getElem? (i := 13) rfl)))) (am_cons (List.mem_cons_of_mem _ (List.mem_append_left _ (List.mem_append_left _ (List.mem_of_getElem? (i := 14) rfl)))) (am_cons (List.mem_cons_of_mem _ (List.mem_append_left _ (List.mem_append_left _ (List.mem_of_getElem? (i := 15) rfl)))) (am_cons (List.mem_cons_of_mem _ (List.mem_append_left _ (List.mem_append_left _ (List.mem_of_getElem? (i := 16) rfl)))) (am_cons (List.mem_cons_of_mem _ (List.mem_append_left _ (List.mem_append_left _ (List.mem_of_getElem? (i := 17) rfl)))) (am_cons (List.mem_cons_of_mem _ (List.mem_append_left _ (List.mem_append_left _ (List.mem_of_getElem? (i := 18) rfl)))) (am_cons (List.mem_cons_of_mem _ (List.mem_append_left _ (List.mem_append_left _ (List.mem_of_getElem? (i := 19) rfl)))) (am_cons (List.mem_cons_of_mem _ (List.mem_append_left _ (List.mem_append_left _ (List.mem_of_getElem? (i := 20) rfl)))) (am_cons (List.mem_cons_of_mem _ (List.mem_append_left _ (List.mem_append_left _ (List.mem_of_getElem? (i := 21) rfl)))) (am_cons (List.mem_cons_of_mem _ (List.mem_append_left _ (List.mem_append_left _ (List.mem_of_getElem? (i := 10) rfl)))) (am_cons (List.mem_cons_of_mem _ (List.mem_append_left _ (List.mem_append_left _ (List.mem_of_getElem? (i := 22) rfl)))) (am_cons (List.mem_cons_of_mem _ (List.mem_append_left _ (List.mem_append_left _ (List.mem_of_getElem? (i := 23) rfl)))) (am_cons (List.mem_cons_of_mem _ (List.mem_append_left _ (List.mem_append_right _ (List.mem_of_getElem? (i := 0) rfl)))) (am_cons (List.mem_cons_of_mem _ (List.mem_append_left _ (List.mem_append_right _ (List.mem_of_getElem? (i := 1) rfl)))) (am_cons (List.mem_cons_of_mem _ (List.mem_append_left _ (List.mem_append_right _ (List.mem_of_getElem? (i := 2) rfl)))) (am_cons (List.mem_cons_of_mem _ (List.mem_append_left _ (List.mem_append_right _ (List.mem_of_getElem? (i := 3) rfl)))) (am_cons (List.mem_cons_of_mem _ (List.mem_append_left _ (List.mem_append_right _ (List.mem_of_getElem? (i := 4) rfl)))) (am_cons (List.mem_cons_of_mem _ (List.mem_append_left _ (List.mem_append_right _ (List.mem_of_getElem? (i := 5) rfl)))) (am_cons (List.mem_cons_of_mem _ (List.mem_append_left _ (List.mem_append_right _ (List.mem_of_getElem? (i := 6) rfl)))) (am_cons (List.mem_cons_of_mem _ (List.mem_append_left _ (List.mem_append_right _ (List.mem_of_getElem? (i := 7) rfl)))) (am_cons (List.mem_cons_of_mem _ (List.mem_append_left _ (List.mem_append_right _ (List.mem_of_getElem? (i := 8) rfl)))) (am_cons (List.mem_cons_of_mem _ (List.mem_append_left _ (List.mem_append_right _ (List.mem_of_getElem? (i := 9) rfl)))) (am_cons (List.mem_cons_of_mem _ (List.mem_append_left _ (List.mem_append_right _ (List.mem_of_getElem? (i := 10) rfl)))) am_nil)))))))))))))))))))))))) (am_cons (List.mem_cons_of_mem _ (List.mem_append_left _ (List.mem_append_right _ (List.mem_of_getElem? (i := 11) rfl)))) (am_cons (List.mem_cons_of_mem _ (List.mem_append_left _ (List.mem_append_right _ (List.mem_of_getElem? (i := 12) rfl)))) (am_cons (List.mem_cons_of_mem _ (List.mem_append_left _ (List.mem_append_left _ (List.mem_of_getElem? (i := 3) rfl)))) (am_cons (List.mem_cons_of_mem _ (List.mem_append_left _ (List.mem_append_left _ (List.mem_of_getElem? (i := 2) rfl)))) am_nil))))) (fun _ h => List.mem_cons_of_mem _ (List.mem_append_right _ (h))))) (by decide +kernel)
set_option maxRecDepth 20000 in
theorem gX9_nearOf_X9_findTone : GoodIn wsX9_nearOf (wsV RX9 142 RX9 yX9_findTone wsX9_findTone) := goodIn_app (goodIn_sub (am_cons (List.mem_cons_of_mem _ (List.mem_append_left _ (List.mem_append_left _ (List.mem_of_getElem? (i := 7) rfl)))) (am_cons (List.mem_cons_of_mem _ (List.mem_append_left _ (List.mem_append_left _ (List.mem_of_getElem? (i := 8) rfl)))) (am_cons (List.mem_cons_of_mem _ (List.mem_append_left _ (List.mem_append_left _ (List.mem_of_getElem? (i := 9) rfl)))) (am_cons (List.mem_cons_of_mem _ (List.mem_append_left _ (List.mem_append_left _ (List.mem_of_getElem? (i := 10) rfl)))) am_nil)))) (by decide +kernel)) ggX9_nearOf_X9_findTone
theorem dX9_nearOf_0 : decode cX9_nearOf 0 = .ok (.aload_n 0, 1) := by decide +kernel
theorem dX9_nearOf_1 : decode cX9_nearOf 1 = .ok (.iload_n 1, 1) := by decide +kernel
theorem dX9_nearOf_2 : decode cX9_nearOf 2 = .ok (.iload_n 2, 1) := by decide +kernel
theorem dX9_nearOf_3 : decode cX9_nearOf 3 = .ok (.invokevirtual 142, 3) := by decide +kernel
theorem dX9_nearOf_6 : decode cX9_nearOf 6 = .ok (.iconst 0, 1) := by decide +kernel
theorem dX9_nearOf_7 : decode cX9_nearOf 7 = .ok (.istore_n 3, 1) := by decide +kernel
theorem dX9_nearOf_8 : decode cX9_nearOf 8 = .ok (.iconst 0, 1) := by decide +kernel
theorem dX9_nearOf_9 : decode cX9_nearOf 9 = .ok (.istore 4, 2) := by decide +kernel
theorem dX9_nearOf_11 : decode cX9_nearOf 11 = .ok (.iload 4, 2) := by decide +kernel
theorem dX9_nearOf_13 : decode cX9_nearOf 13 = .ok (.aload_n 0, 1) := by decide +kernel
theorem dX9_nearOf_14 : decode cX9_nearOf 14 = .ok (.getfield 200, 3) := by decide +kernel
theorem dX9_nearOf_17 : decode cX9_nearOf 17 = .ok (.if_icmp .ge 95, 3) := by decide +kernel
theorem dX9_nearOf_20 : decode cX9_nearOf 20 = .ok (.aload_n 0, 1) := by decide +kernel
theorem dX9_nearOf_21 : decode cX9_nearOf 21 = .ok (.getfield 60, 3) := by decide +kernel
theorem dX9_nearOf_24 : decode cX9_nearOf 24 = .ok (.iload 4, 2) := by decide +kernel
theorem dX9_nearOf_26 : decode cX9_nearOf 26 = .ok (.iaload, 1) := by decide +kernel
theorem dX9_nearOf_27 : decode cX9_nearOf 27 = .ok (.i2l, 1) := by decide +kernel
theorem dX9_nearOf_28 : decode cX9_nearOf 28 = .ok (.aload_n 0, 1) := by decide +kernel
theorem dX9_nearOf_29 : decode cX9_nearOf 29 = .ok (.getfield 93, 3) := by decide +kernel
theorem dX9_nearOf_32 : decode cX9_nearOf 32 = .ok (.lmul, 1) := by decide +kernel
theorem dX9_nearOf_33 : decode cX9_nearOf 33 = .ok (.aload_n 0, 1) := by decide +kernel
theorem dX9_nearOf_34 : decode cX9_nearOf 34 = .ok (.getfield 89, 3) := by decide +kernel
theorem dX9_nearOf_37 : decode cX9_nearOf 37 = .ok (.aload_n 0, 1) := by decide +kernel
theorem dX9_nearOf_38 : decode cX9_nearOf 38 = .ok (.getfield 63, 3) := by decide +kernel
theorem dX9_nearOf_41 : decode cX9_nearOf 41 = .ok (.iload 4, 2) := by decide +kernel
theorem dX9_nearOf_43 : decode cX9_nearOf 43 = .ok (.iaload, 1) := by decide +kernel
theorem dX9_nearOf_44 : decode cX9_nearOf 44 = .ok (.i2l, 1) := by decide +kernel
theorem dX9_nearOf_45 : decode cX9_nearOf 45 = .ok (.lmul, 1) := by decide +kernel
theorem dX9_nearOf_46 : decode cX9_nearOf 46 = .ok (.lsub, 1) := by decide +kernel
theorem dX9_nearOf_47 : decode cX9_nearOf 47 = .ok (.lstore 5, 2) := by decide +kernel
theorem dX9_nearOf_49 : decode cX9_nearOf 49 = .ok (.lload 5, 2) := by decide +kernel
theorem dX9_nearOf_51 : decode cX9_nearOf 51 = .ok (.lconst 0, 1) := by decide +kernel
theorem dX9_nearOf_52 : decode cX9_nearOf 52 = .ok (.lcmp, 1) := by decide +kernel
theorem dX9_nearOf_53 : decode cX9_nearOf 53 = .ok (.ifCond .ge 9, 3) := by decide +kernel
theorem dX9_nearOf_56 : decode cX9_nearOf 56 = .ok (.lload 5, 2) := by decide +kernel
theorem dX9_nearOf_58 : decode cX9_nearOf 58 = .ok (.lneg, 1) := by decide +kernel
theorem dX9_nearOf_59 : decode cX9_nearOf 59 = .ok (.goto 5, 3) := by decide +kernel
theorem dX9_nearOf_62 : decode cX9_nearOf 62 = .ok (.lload 5, 2) := by decide +kernel
theorem dX9_nearOf_64 : decode cX9_nearOf 64 = .ok (.lstore 5, 2) := by decide +kernel
theorem dX9_nearOf_66 : decode cX9_nearOf 66 = .ok (.iload_n 3, 1) := by decide +kernel
theorem dX9_nearOf_67 : decode cX9_nearOf 67 = .ok (.ldc2_w 165, 3) := by decide +kernel
theorem dX9_nearOf_70 : decode cX9_nearOf 70 = .ok (.lload 5, 2) := by decide +kernel
theorem dX9_nearOf_72 : decode cX9_nearOf 72 = .ok (.lmul, 1) := by decide +kernel
theorem dX9_nearOf_73 : decode cX9_nearOf 73 = .ok (.aload_n 0, 1) := by decide +kernel
theorem dX9_nearOf_74 : decode cX9_nearOf 74 = .ok (.getfield 66, 3) := by decide +kernel
theorem dX9_nearOf_77 : decode cX9_nearOf 77 = .ok (.i2l, 1) := by decide +kernel
theorem dX9_nearOf_78 : decode cX9_nearOf 78 = .ok (.aload_n 0, 1) := by decide +kernel
theorem dX9_nearOf_79 : decode cX9_nearOf 79 = .ok (.getfield 89, 3) := by decide +kernel
theorem dX9_nearOf_82 : decode cX9_nearOf 82 = .ok (.lmul, 1) := by decide +kernel
theorem dX9_nearOf_83 : decode cX9_nearOf 83 = .ok (.aload_n 0, 1) := by decide +kernel
theorem dX9_nearOf_84 : decode cX9_nearOf 84 = .ok (.getfield 63, 3) := by decide +kernel
theorem dX9_nearOf_87 : decode cX9_nearOf 87 = .ok (.iload 4, 2) := by decide +kernel
theorem dX9_nearOf_89 : decode cX9_nearOf 89 = .ok (.iaload, 1) := by decide +kernel
theorem dX9_nearOf_90 : decode cX9_nearOf 90 = .ok (.i2l, 1) := by decide +kernel
theorem dX9_nearOf_91 : decode cX9_nearOf 91 = .ok (.lmul, 1) := by decide +kernel
theorem dX9_nearOf_92 : decode cX9_nearOf 92 = .ok (.lcmp, 1) := by decide +kernel
theorem dX9_nearOf_93 : decode cX9_nearOf 93 = .ok (.ifCond .gt 10, 3) := by decide +kernel
theorem dX9_nearOf_96 : decode cX9_nearOf 96 = .ok (.iconst 1, 1) := by decide +kernel
theorem dX9_nearOf_97 : decode cX9_nearOf 97 = .ok (.iload 4, 2) := by decide +kernel
theorem dX9_nearOf_99 : decode cX9_nearOf 99 = .ok (.ishl, 1) := by decide +kernel
theorem dX9_nearOf_100 : decode cX9_nearOf 100 = .ok (.goto 4, 3) := by decide +kernel
theorem dX9_nearOf_103 : decode cX9_nearOf 103 = .ok (.iconst 0, 1) := by decide +kernel
theorem dX9_nearOf_104 : decode cX9_nearOf 104 = .ok (.ior, 1) := by decide +kernel
theorem dX9_nearOf_105 : decode cX9_nearOf 105 = .ok (.istore_n 3, 1) := by decide +kernel
theorem dX9_nearOf_106 : decode cX9_nearOf 106 = .ok (.iinc 4 1, 3) := by decide +kernel
theorem dX9_nearOf_109 : decode cX9_nearOf 109 = .ok (.goto (-98), 3) := by decide +kernel
theorem dX9_nearOf_112 : decode cX9_nearOf 112 = .ok (.iload_n 3, 1) := by decide +kernel
theorem dX9_nearOf_113 : decode cX9_nearOf 113 = .ok (.ireturn, 1) := by decide +kernel
set_option maxRecDepth 20000 in
theorem ggX9_explained_X9_tonesOf : GoodIn wsX9_explained wsX9_tonesOf := goodIn_sub (am_cons (List.mem_cons_of_mem _ (List.mem_append_left _ (List.mem_append_left _ (List.mem_of_getElem? (i := 4) rfl)))) (am_app (am_cons (List.mem_cons_of_mem _ (List.mem_append_left _ (List.mem_append_left _ (List.mem_of_getElem? (i := 5) rfl)))) (am_cons (List.mem_cons_of_mem _ (List.mem_append_left _ (List.mem_append_left _ (List.mem_of_getElem? (i := 6) rfl)))) (am_cons (List.mem_cons_of_mem _ (List.mem_append_left _ (List.mem_append_left _ (List.mem_of_getElem? (i := 7) rfl)))) (am_cons (List.mem_cons_of_mem _ (List.mem_append_left _ (List.mem_append_left _ (List.mem_of_getElem? (i := 3) rfl)))) (am_cons (List.mem_cons_of_mem _ (List.mem_append_left _ (List.mem_append_left _ (List.mem_of_getElem? (i := 8) rfl)))) (am_cons (List.mem_cons_of_mem _ (List.mem_append_left _ (List.mem_append_left _ (List.mem_of_getElem? (i := 9) rfl)))) am_nil)))))) (fun _ h => List.mem_cons_of_mem _ (List.mem_append_right _ (h))))) (by decide +kernel)
set_option maxRecDepth 20000 in
theorem gX9_explained_X9_tonesOf : GoodIn wsX9_explained (wsV RX9 137 RX9 yX9_tonesOf wsX9_tonesOf) := goodIn_app (goodIn_sub (am_cons (List.mem_cons_of_mem _ (List.mem_append_left _ (List.mem_append_left _ (List.mem_of_getElem? (i := 0) rfl)))) (am_cons (List.mem_cons_of_mem _ (List.mem_append_left _ (List.mem_append_left _ (List.mem_of_getElem? (i := 1) rfl)))) (am_cons (List.mem_cons_of_mem _ (List.mem_append_left _ (List.mem_append_left _ (List.mem_of_getElem? (i := 2) rfl)))) (am_cons (List.mem_cons_of_mem _ (List.mem_append_left _ (List.mem_append_left _ (List.mem_of_getElem? (i := 3) rfl)))) am_nil)))) (by decide +kernel)) ggX9_explained_X9_tonesOf
set_option maxRecDepth 20000 in
theorem ggX9_explained_X9_nearOf : GoodIn wsX9_explained wsX9_nearOf := goodIn_sub (am_cons (List.mem_cons_of_mem _ (List.mem_append_left _ (List.mem_append_left _ (List.mem_of_getElem? (i := 13) rfl)))) (am_app (am_app (am_cons (List.mem_cons_of_mem _ (List.mem_append_left _ (List.mem_append_left _ (List.mem_of_getElem? (i := 14) rfl)))) (am_cons (List.mem_cons_of_mem _ (List.mem_append_left _ (List.mem_append_left _ (List.mem_of_getElem? (i := 15) rfl)))) (am_cons (List.mem_cons_of_mem _ (List.mem_append_left _ (List.mem_append_left _ (List.mem_of_getElem? (i := 16) rfl)))) (am_cons (List.mem_cons_of_mem _ (List.mem_append_left _ (List.mem_append_left _ (List.mem_of_getElem? (i := 17) rfl)))) (am_cons (List.mem_cons_of_mem _ (List.mem_append_left _ (List.mem_append_left _ (List.mem_of_getElem? (i := 18) rfl)))) (am_cons (List.mem_cons_of_mem _ (List.mem_append_left _ (List.mem_append_left _ (List.mem_of_getElem? (i := 19) rfl)))) (am_cons (List.mem_cons_of_mem _ (List.mem_append_left _ (List.mem_append_left _ (List.mem_of_getElem? (i := 20) rfl)))) (am_cons (List.mem_cons_of_mem _ (List.mem_append_left _ (List.mem_append_left _ (List.mem_of_getElem? (i := 21) rfl)))) (am_cons (List.mem_cons_of_mem _ (List.mem_append_left _ (List.mem_append_left _ (List.mem_of_getElem? (i := 22) rfl)))) (am_cons (List.mem_cons_of_mem _ (List.mem_append_left _ (List.mem_append_left _ (List.mem_of_getElem? (i := 23) rfl)))) (am_cons (List.mem_cons_of_mem _ (List.mem_append_left _ (List.mem_append_left _ (List.mem_of_getElem? (i := 3) rfl)))) (am_cons (List.mem_cons_of_mem _ (List.mem_append_left _ (List.mem_append_right _ (List.mem_of_getElem? (i := 0) rfl)))) (am_cons (List.mem_cons_of_mem _ (List.mem_append_left _ (List.mem_append_right _ (List.mem_of_getElem? (i := 1) rfl)))) (am_cons (List.mem_cons_of_mem _ (List.mem_append_left _ (List.mem_append_right _ (List.mem_of_getElem? (i := 2) rfl)))) (am_cons (List.mem_cons_of_mem _ (List.mem_append_left _ (List.mem_append_right _ (List.mem_of_getElem? (i := 3) rfl)))) (am_cons (List.mem_cons_of_mem _ (List.mem_append_left _ (List.mem_append_right _ (List.mem_of_getElem? (i := 4) rfl)))) (am_cons (List.mem_cons_of_mem _ (List.mem_append_left _ (List.mem_append_right _ (List.mem_of_getElem? (i := 5) rfl)))) (am_cons (List.mem_cons_of_mem _ (List.mem_append_left _ (List.mem_append_right _ (List.mem_of_getElem? (i := 6) rfl)))) (am_cons (List.mem_cons_of_mem _ (List.mem_append_left _ (List.mem_append_right _ (List.mem_of_getElem? (i := 7) rfl)))) (am_cons (List.mem_cons_of_mem _ (List.mem_append_left _ (List.mem_append_left _ (List.mem_of_getElem? (i := 5) rfl)))) (am_cons (List.mem_cons_of_mem _ (List.mem_append_left _ (List.mem_append_left _ (List.mem_of_getElem? (i := 6) rfl)))) (am_cons (List.mem_cons_of_mem _ (List.mem_append_left _ (List.mem_append_left _ (List.mem_of_getElem? (i := 7) rfl)))) (am_cons (List.mem_cons_of_mem _ (List.mem_append_left _ (List.mem_append_left _ (List.mem_of_getElem? (i := 8) rfl)))) (am_cons (List.mem_cons_of_mem _ (List.mem_append_left _ (List.mem_append_left _ (List.mem_of_getElem? (i := 9) rfl)))) am_nil)))))))))))))))))))))))) (am_cons (List.mem_cons_of_mem _ (List.mem_append_left _ (List.mem_append_right _ (List.mem_of_getElem? (i := 8) rfl)))) (am_cons (List.mem_cons_of_mem _ (List.mem_append_left _ (List.mem_append_right _ (List.mem_of_getElem? (i := 9) rfl)))) (am_cons (List.mem_cons_of_mem _ (List.mem_append_left _ (List.mem_append_right _ (List.mem_of_getElem? (i := 10) rfl)))) (am_cons (List.mem_cons_of_mem _ (List.mem_append_left _ (List.mem_append_right _ (List.mem_of_getElem? (i := 11) rfl)))) (am_cons (List.mem_cons_of_mem _ (List.mem_append_left _ (List.mem_append_right _ (List.mem_of_getElem? (i := 12) rfl)))) (am_cons (List.mem_cons_of_mem _ (List.mem_append_left _ (List.mem_append_right _ (List.mem_of_getElem? (i := 13) rfl)))) (am_cons (List.mem_cons_of_mem _ (List.mem_append_left _ (List.mem_append_right _ (List.mem_of_getElem? (i := 14) rfl)))) (am_cons (List.mem_cons_of_mem _ (List.mem_append_left _ (List.mem_append_right _ (List.mem_of_getElem? (i := 15) rfl)))) (am_cons (List.mem_cons_of_mem _ (List.mem_append_left _ (List.mem_append_right _ (List.mem_of_getElem? (i := 16) rfl)))) (am_cons (List.mem_cons_of_mem _ (List.mem_append_left _ (List.mem_append_right _ (List.mem_of_getElem? (i := 17) rfl)))) (am_cons (List.mem_cons_of_mem _ (List.mem_append_left _ (List.mem_append_right _ (List.mem_of_getElem? (i := 18) rfl)))) (am_cons (List.mem_cons_of_mem _ (List.mem_append_left _ (List.mem_append_right _ (List.mem_of_getElem? (i := 19) rfl)))) (am_cons (List.mem_cons_of_mem _ (List.mem_append_left _ (List.mem_append_right _ (List.mem_of_getElem? (i := 20) rfl)))) am_nil)))))))))))))) (fun _ h => List.mem_cons_of_mem _ (List.mem_append_right _ (h))))) (by decide +kernel)
set_option maxRecDepth 20000 in
theorem gX9_explained_X9_nearOf : GoodIn wsX9_explained (wsV RX9 203 RX9 yX9_nearOf wsX9_nearOf) := goodIn_app (goodIn_sub (am_cons (List.mem_cons_of_mem _ (List.mem_append_left _ (List.mem_append_left _ (List.mem_of_getElem? (i := 10) rfl)))) (am_cons (List.mem_cons_of_mem _ (List.mem_append_left _ (List.mem_append_left _ (List.mem_of_getElem? (i := 11) rfl)))) (am_cons (List.mem_cons_of_mem _ (List.mem_append_left _ (List.mem_append_left _ (List.mem_of_getElem? (i := 12) rfl)))) (am_cons (List.mem_cons_of_mem _ (List.mem_append_left _ (List.mem_append_left _ (List.mem_of_getElem? (i := 3) rfl)))) am_nil)))) (by decide +kernel)) ggX9_explained_X9_nearOf
theorem dX9_explained_0 : decode cX9_explained 0 = .ok (.iconst 0, 1) := by decide +kernel
theorem dX9_explained_1 : decode cX9_explained 1 = .ok (.istore_n 2, 1) := by decide +kernel
theorem dX9_explained_2 : decode cX9_explained 2 = .ok (.iconst 0, 1) := by decide +kernel
theorem dX9_explained_3 : decode cX9_explained 3 = .ok (.istore_n 3, 1) := by decide +kernel
theorem dX9_explained_4 : decode cX9_explained 4 = .ok (.iload_n 3, 1) := by decide +kernel
theorem dX9_explained_5 : decode cX9_explained 5 = .ok (.aload_n 0, 1) := by decide +kernel
theorem dX9_explained_6 : decode cX9_explained 6 = .ok (.iload_n 1, 1) := by decide +kernel
theorem dX9_explained_7 : decode cX9_explained 7 = .ok (.invokevirtual 137, 3) := by decide +kernel
theorem dX9_explained_10 : decode cX9_explained 10 = .ok (.if_icmp .ge 18, 3) := by decide +kernel
theorem dX9_explained_13 : decode cX9_explained 13 = .ok (.iload_n 2, 1) := by decide +kernel
theorem dX9_explained_14 : decode cX9_explained 14 = .ok (.aload_n 0, 1) := by decide +kernel
theorem dX9_explained_15 : decode cX9_explained 15 = .ok (.iload_n 1, 1) := by decide +kernel
theorem dX9_explained_16 : decode cX9_explained 16 = .ok (.iload_n 3, 1) := by decide +kernel
theorem dX9_explained_17 : decode cX9_explained 17 = .ok (.invokevirtual 203, 3) := by decide +kernel
theorem dX9_explained_20 : decode cX9_explained 20 = .ok (.ior, 1) := by decide +kernel
theorem dX9_explained_21 : decode cX9_explained 21 = .ok (.istore_n 2, 1) := by decide +kernel
theorem dX9_explained_22 : decode cX9_explained 22 = .ok (.iinc 3 1, 3) := by decide +kernel
theorem dX9_explained_25 : decode cX9_explained 25 = .ok (.goto (-21), 3) := by decide +kernel
theorem dX9_explained_28 : decode cX9_explained 28 = .ok (.iload_n 2, 1) := by decide +kernel
theorem dX9_explained_29 : decode cX9_explained 29 = .ok (.ireturn, 1) := by decide +kernel
set_option maxRecDepth 20000 in
theorem ggX9_canBeNamed_X9_tonesOf : GoodIn wsX9_canBeNamed wsX9_tonesOf := goodIn_sub (am_cons (List.mem_cons_of_mem _ (List.mem_append_left _ (List.mem_append_left _ (List.mem_of_getElem? (i := 4) rfl)))) (am_app (am_cons (List.mem_cons_of_mem _ (List.mem_append_left _ (List.mem_append_left _ (List.mem_of_getElem? (i := 5) rfl)))) (am_cons (List.mem_cons_of_mem _ (List.mem_append_left _ (List.mem_append_left _ (List.mem_of_getElem? (i := 6) rfl)))) (am_cons (List.mem_cons_of_mem _ (List.mem_append_left _ (List.mem_append_left _ (List.mem_of_getElem? (i := 7) rfl)))) (am_cons (List.mem_cons_of_mem _ (List.mem_append_left _ (List.mem_append_left _ (List.mem_of_getElem? (i := 3) rfl)))) (am_cons (List.mem_cons_of_mem _ (List.mem_append_left _ (List.mem_append_left _ (List.mem_of_getElem? (i := 8) rfl)))) (am_cons (List.mem_cons_of_mem _ (List.mem_append_left _ (List.mem_append_left _ (List.mem_of_getElem? (i := 9) rfl)))) am_nil)))))) (fun _ h => List.mem_cons_of_mem _ (List.mem_append_right _ (h))))) (by decide +kernel)
set_option maxRecDepth 20000 in
theorem gX9_canBeNamed_X9_tonesOf : GoodIn wsX9_canBeNamed (wsV RX9 137 RX9 yX9_tonesOf wsX9_tonesOf) := goodIn_app (goodIn_sub (am_cons (List.mem_cons_of_mem _ (List.mem_append_left _ (List.mem_append_left _ (List.mem_of_getElem? (i := 0) rfl)))) (am_cons (List.mem_cons_of_mem _ (List.mem_append_left _ (List.mem_append_left _ (List.mem_of_getElem? (i := 1) rfl)))) (am_cons (List.mem_cons_of_mem _ (List.mem_append_left _ (List.mem_append_left _ (List.mem_of_getElem? (i := 2) rfl)))) (am_cons (List.mem_cons_of_mem _ (List.mem_append_left _ (List.mem_append_left _ (List.mem_of_getElem? (i := 3) rfl)))) am_nil)))) (by decide +kernel)) ggX9_canBeNamed_X9_tonesOf
set_option maxRecDepth 20000 in
theorem ggX9_canBeNamed_X9_nearOf : GoodIn wsX9_canBeNamed wsX9_nearOf := goodIn_sub (am_cons (List.mem_cons_of_mem _ (List.mem_append_left _ (List.mem_append_left _ (List.mem_of_getElem? (i := 13) rfl)))) (am_app (am_app (am_cons (List.mem_cons_of_mem _ (List.mem_append_left _ (List.mem_append_left _ (List.mem_of_getElem? (i := 14) rfl)))) (am_cons (List.mem_cons_of_mem _ (List.mem_append_left _ (List.mem_append_left _ (List.mem_of_getElem? (i := 15) rfl)))) (am_cons (List.mem_cons_of_mem _ (List.mem_append_left _ (List.mem_append_left _ (List.mem_of_getElem? (i := 16) rfl)))) (am_cons (List.mem_cons_of_mem _ (List.mem_append_left _ (List.mem_append_left _ (List.mem_of_getElem? (i := 17) rfl)))) (am_cons (List.mem_cons_of_mem _ (List.mem_append_left _ (List.mem_append_left _ (List.mem_of_getElem? (i := 18) rfl)))) (am_cons (List.mem_cons_of_mem _ (List.mem_append_left _ (List.mem_append_left _ (List.mem_of_getElem? (i := 19) rfl)))) (am_cons (List.mem_cons_of_mem _ (List.mem_append_left _ (List.mem_append_left _ (List.mem_of_getElem? (i := 20) rfl)))) (am_cons (List.mem_cons_of_mem _ (List.mem_append_left _ (List.mem_append_left _ (List.mem_of_getElem? (i := 21) rfl)))) (am_cons (List.mem_cons_of_mem _ (List.mem_append_left _ (List.mem_append_left _ (List.mem_of_getElem? (i := 22) rfl)))) (am_cons (List.mem_cons_of_mem _ (List.mem_append_left _ (List.mem_append_left _ (List.mem_of_getElem? (i := 23) rfl)))) (am_cons (List.mem_cons_of_mem _ (List.mem_append_left _ (List.mem_append_left _ (List.mem_of_getElem? (i := 3) rfl)))) (am_cons (List.mem_cons_of_mem _ (List.mem_append_left _ (List.mem_append_right _ (List.mem_of_getElem? (i := 0) rfl)))) (am_cons (List.mem_cons_of_mem _ (List.mem_append_left _ (List.mem_append_right _ (List.mem_of_getElem? (i := 1) rfl)))) (am_cons (List.mem_cons_of_mem _ (List.mem_append_left _ (List.mem_append_right _ (List.mem_of_getElem? (i := 2) rfl)))) (am_cons (List.mem_cons_of_mem _ (List.mem_append_left _ (List.mem_append_right _ (List.mem_of_getElem? (i := 3) rfl)))) (am_cons (List.mem_cons_of_mem _ (List.mem_append_left _ (List.mem_append_right _ (List.mem_of_getElem? (i := 4) rfl)))) (am_cons (List.mem_cons_of_mem _ (List.mem_append_left _ (List.mem_append_right _ (List.mem_of_getElem? (i := 5) rfl)))) (am_cons (List.mem_cons_of_mem _ (List.mem_append_left _ (List.mem_append_right _ (List.mem_of_getElem? (i := 6) rfl)))) (am_cons (List.mem_cons_of_mem _ (List.mem_append_left _ (List.mem_append_right _ (List.mem_of_getElem? (i := 7) rfl)))) (am_cons (List.mem_cons_of_mem _ (List.mem_append_left _ (List.mem_append_left _ (List.mem_of_getElem? (i := 5) rfl)))) (am_cons (List.mem_cons_of_mem _ (List.mem_append_left _ (List.mem_append_left _ (List.mem_of_getElem? (i := 6) rfl)))) (am_cons (List.mem_cons_of_mem _ (List.mem_append_left _ (List.mem_append_left _ (List.mem_of_getElem? (i := 7) rfl)))) (am_cons (List.mem_cons_of_mem _ (List.mem_append_left _ (List.mem_append_left _ (List.mem_of_getElem? (i := 8) rfl)))) (am_cons (List.mem_cons_of_mem _ (List.mem_append_left _ (List.mem_append_left _ (List.mem_of_getElem? (i := 9) rfl)))) am_nil)))))))))))))))))))))))) (am_cons (List.mem_cons_of_mem _ (List.mem_append_left _ (List.mem_append_right _ (List.mem_of_getElem? (i := 8) rfl)))) (am_cons (List.mem_cons_of_mem _ (List.mem_append_left _ (List.mem_append_right _ (List.mem_of_getElem? (i := 9) rfl)))) (am_cons (List.mem_cons_of_mem _ (List.mem_append_left _ (List.mem_append_right _ (List.mem_of_getElem? (i := 10) rfl)))) (am_cons (List.mem_cons_of_mem _ (List.mem_append_left _ (List.mem_append_right _ (List.mem_of_getElem? (i := 11) rfl)))) (am_cons (List.mem_cons_of_mem _ (List.mem_append_left _ (List.mem_append_right _ (List.mem_of_getElem? (i := 12) rfl)))) (am_cons (List.mem_cons_of_mem _ (List.mem_append_left _ (List.mem_append_right _ (List.mem_of_getElem? (i := 13) rfl)))) (am_cons (List.mem_cons_of_mem _ (List.mem_append_left _ (List.mem_append_right _ (List.mem_of_getElem? (i := 14) rfl)))) (am_cons (List.mem_cons_of_mem _ (List.mem_append_left _ (List.mem_append_right _ (List.mem_of_getElem? (i := 15) rfl)))) (am_cons (List.mem_cons_of_mem _ (List.mem_append_left _ (List.mem_append_right _ (List.mem_of_getElem? (i := 16) rfl)))) (am_cons (List.mem_cons_of_mem _ (List.mem_append_left _ (List.mem_append_right _ (List.mem_of_getElem? (i := 17) rfl)))) (am_cons (List.mem_cons_of_mem _ (List.mem_append_left _ (List.mem_append_right _ (List.mem_of_getElem? (i := 18) rfl)))) (am_cons (List.mem_cons_of_mem _ (List.mem_append_left _ (List.mem_append_right _ (List.mem_of_getElem? (i := 19) rfl)))) (am_cons (List.mem_cons_of_mem _ (List.mem_append_left _ (List.mem_append_right _ (List.mem_of_getElem? (i := 20) rfl)))) am_nil)))))))))))))) (fun _ h => List.mem_cons_of_mem _ (List.mem_append_right _ (h))))) (by decide +kernel)
set_option maxRecDepth 20000 in
theorem gX9_canBeNamed_X9_nearOf : GoodIn wsX9_canBeNamed (wsV RX9 203 RX9 yX9_nearOf wsX9_nearOf) := goodIn_app (goodIn_sub (am_cons (List.mem_cons_of_mem _ (List.mem_append_left _ (List.mem_append_left _ (List.mem_of_getElem? (i := 10) rfl)))) (am_cons (List.mem_cons_of_mem _ (List.mem_append_left _ (List.mem_append_left _ (List.mem_of_getElem? (i := 11) rfl)))) (am_cons (List.mem_cons_of_mem _ (List.mem_append_left _ (List.mem_append_left _ (List.mem_of_getElem? (i := 12) rfl)))) (am_cons (List.mem_cons_of_mem _ (List.mem_append_left _ (List.mem_append_left _ (List.mem_of_getElem? (i := 3) rfl)))) am_nil)))) (by decide +kernel)) ggX9_canBeNamed_X9_nearOf
theorem dX9_canBeNamed_0 : decode cX9_canBeNamed 0 = .ok (.iconst 1, 1) := by decide +kernel
theorem dX9_canBeNamed_1 : decode cX9_canBeNamed 1 = .ok (.istore_n 2, 1) := by decide +kernel
theorem dX9_canBeNamed_2 : decode cX9_canBeNamed 2 = .ok (.iconst 0, 1) := by decide +kernel
theorem dX9_canBeNamed_3 : decode cX9_canBeNamed 3 = .ok (.istore_n 3, 1) := by decide +kernel
theorem dX9_canBeNamed_4 : decode cX9_canBeNamed 4 = .ok (.iload_n 3, 1) := by decide +kernel
theorem dX9_canBeNamed_5 : decode cX9_canBeNamed 5 = .ok (.aload_n 0, 1) := by decide +kernel
theorem dX9_canBeNamed_6 : decode cX9_canBeNamed 6 = .ok (.iload_n 1, 1) := by decide +kernel
theorem dX9_canBeNamed_7 : decode cX9_canBeNamed 7 = .ok (.invokevirtual 137, 3) := by decide +kernel
theorem dX9_canBeNamed_10 : decode cX9_canBeNamed 10 = .ok (.if_icmp .ge 28, 3) := by decide +kernel
theorem dX9_canBeNamed_13 : decode cX9_canBeNamed 13 = .ok (.iload_n 2, 1) := by decide +kernel
theorem dX9_canBeNamed_14 : decode cX9_canBeNamed 14 = .ok (.ifCond .eq 16, 3) := by decide +kernel
theorem dX9_canBeNamed_17 : decode cX9_canBeNamed 17 = .ok (.aload_n 0, 1) := by decide +kernel
theorem dX9_canBeNamed_18 : decode cX9_canBeNamed 18 = .ok (.iload_n 1, 1) := by decide +kernel
theorem dX9_canBeNamed_19 : decode cX9_canBeNamed 19 = .ok (.iload_n 3, 1) := by decide +kernel
theorem dX9_canBeNamed_20 : decode cX9_canBeNamed 20 = .ok (.invokevirtual 203, 3) := by decide +kernel
theorem dX9_canBeNamed_23 : decode cX9_canBeNamed 23 = .ok (.ifCond .eq 7, 3) := by decide +kernel
theorem dX9_canBeNamed_26 : decode cX9_canBeNamed 26 = .ok (.iconst 1, 1) := by decide +kernel
theorem dX9_canBeNamed_27 : decode cX9_canBeNamed 27 = .ok (.goto 4, 3) := by decide +kernel
theorem dX9_canBeNamed_30 : decode cX9_canBeNamed 30 = .ok (.iconst 0, 1) := by decide +kernel
theorem dX9_canBeNamed_31 : decode cX9_canBeNamed 31 = .ok (.istore_n 2, 1) := by decide +kernel
theorem dX9_canBeNamed_32 : decode cX9_canBeNamed 32 = .ok (.iinc 3 1, 3) := by decide +kernel
theorem dX9_canBeNamed_35 : decode cX9_canBeNamed 35 = .ok (.goto (-31), 3) := by decide +kernel
theorem dX9_canBeNamed_38 : decode cX9_canBeNamed 38 = .ok (.iload_n 2, 1) := by decide +kernel
theorem dX9_canBeNamed_39 : decode cX9_canBeNamed 39 = .ok (.ireturn, 1) := by decide +kernel
set_option maxRecDepth 20000 in
theorem ggX9_explains_X9_isPart : GoodIn wsX9_explains wsX9_isPart := goodIn_sub (am_cons (List.mem_cons_of_mem _ (List.mem_append_left _ (List.mem_append_left _ (List.mem_of_getElem? (i := 4) rfl)))) (am_app (am_cons (List.mem_cons_of_mem _ (List.mem_append_left _ (List.mem_append_left _ (List.mem_of_getElem? (i := 5) rfl)))) (am_cons (List.mem_cons_of_mem _ (List.mem_append_left _ (List.mem_append_left _ (List.mem_of_getElem? (i := 6) rfl)))) (am_cons (List.mem_cons_of_mem _ (List.mem_append_left _ (List.mem_append_left _ (List.mem_of_getElem? (i := 7) rfl)))) (am_cons (List.mem_cons_of_mem _ (List.mem_append_left _ (List.mem_append_left _ (List.mem_of_getElem? (i := 3) rfl)))) (am_cons (List.mem_cons_of_mem _ (List.mem_append_left _ (List.mem_append_left _ (List.mem_of_getElem? (i := 8) rfl)))) (am_cons (List.mem_cons_of_mem _ (List.mem_append_left _ (List.mem_append_left _ (List.mem_of_getElem? (i := 9) rfl)))) (am_cons (List.mem_cons_of_mem _ (List.mem_append_left _ (List.mem_append_left _ (List.mem_of_getElem? (i := 10) rfl)))) (am_cons (List.mem_cons_of_mem _ (List.mem_append_left _ (List.mem_append_left _ (List.mem_of_getElem? (i := 11) rfl)))) (am_cons (List.mem_cons_of_mem _ (List.mem_append_left _ (List.mem_append_left _ (List.mem_of_getElem? (i := 12) rfl)))) (am_cons (List.mem_cons_of_mem _ (List.mem_append_left _ (List.mem_append_left _ (List.mem_of_getElem? (i := 13) rfl)))) am_nil)))))))))) (fun _ h => List.mem_cons_of_mem _ (List.mem_append_right _ (h))))) (by decide +kernel)
set_option maxRecDepth 20000 in
theorem gX9_explains_X9_isPart : GoodIn wsX9_explains (wsV RX9 130 RX9 yX9_isPart wsX9_isPart) := goodIn_app (goodIn_sub (am_cons (List.mem_cons_of_mem _ (List.mem_append_left _ (List.mem_append_left _ (List.mem_of_getElem? (i := 0) rfl)))) (am_cons (List.mem_cons_of_mem _ (List.mem_append_left _ (List.mem_append_left _ (List.mem_of_getElem? (i := 1) rfl)))) (am_cons (List.mem_cons_of_mem _ (List.mem_append_left _ (List.mem_append_left _ (List.mem_of_getElem? (i := 2) rfl)))) (am_cons (List.mem_cons_of_mem _ (List.mem_append_left _ (List.mem_append_left _ (List.mem_of_getElem? (i := 3) rfl)))) am_nil)))) (by decide +kernel)) ggX9_explains_X9_isPart
set_option maxRecDepth 20000 in
theorem ggX9_explains_X9_explained : GoodIn wsX9_explains wsX9_explained := goodIn_sub (am_cons (List.mem_cons_of_mem _ (List.mem_append_left _ (List.mem_append_left _ (List.mem_of_getElem? (i := 17) rfl)))) (am_app (am_app (am_cons (List.mem_cons_of_mem _ (List.mem_append_left _ (List.mem_append_left _ (List.mem_of_getElem? (i := 18) rfl)))) (am_cons (List.mem_cons_of_mem _ (List.mem_append_left _ (List.mem_append_left _ (List.mem_of_getElem? (i := 19) rfl)))) (am_cons (List.mem_cons_of_mem _ (List.mem_append_left _ (List.mem_append_left _ (List.mem_of_getElem? (i := 20) rfl)))) (am_cons (List.mem_cons_of_mem _ (List.mem_append_left _ (List.mem_append_left _ (List.mem_of_getElem? (i := 3) rfl)))) (am_cons (List.mem_cons_of_mem _ (List.mem_append_left _ (List.mem_append_left _ (List.mem_of_getElem? (i := 21) rfl)))) (am_cons (List.mem_cons_of_mem _ (List.mem_append_left _ (List.mem_append_left _ (List.mem_of_getElem? (i := 22) rfl)))) (am_cons (List.mem_cons_of_mem _ (List.mem_append_left _ (List.mem_append_left _ (List.mem_of_getElem? (i := 23) rfl)))) (am_cons (List.mem_cons_of_mem _ (List.mem_append_left _ (List.mem_append_right _ (List.mem_append_left _ (List.mem_of_getElem? (i := 0) rfl))))) (am_cons (List.mem_cons_of_mem _ (List.mem_append_left _ (List.mem_append_right _ (List.mem_append_left _ (List.mem_of_getElem? (i := 1) rfl))))) (am_cons (List.mem_cons_of_mem _ (List.mem_append_left _ (List.mem_append_left _ (List.mem_of_getElem? (i := 9) rfl)))) (am_cons (List.mem_cons_of_mem _ (List.mem_append_left _ (List.mem_append_right _ (List.mem_append_left _ (List.mem_of_getElem? (i := 2) rfl))))) (am_cons (List.mem_cons_of_mem _ (List.mem_append_left _ (List.mem_append_right _ (List.mem_append_left _ (List.mem_of_getElem? (i := 3) rfl))))) (am_cons (List.mem_cons_of_mem _ (List.mem_append_left _ (List.mem_append_right _ (List.mem_append_left _ (List.mem_of_getElem? (i := 4) rfl))))) (am_cons (List.mem_cons_of_mem _ (List.mem_append_left _ (List.mem_append_right _ (List.mem_append_left _ (List.mem_of_getElem? (i := 5) rfl))))) (am_cons (List.mem_cons_of_mem _ (List.mem_append_left _ (List.mem_append_right _ (List.mem_append_left _ (List.mem_of_getElem? (i := 6) rfl))))) (am_cons (List.mem_cons_of_mem _ (List.mem_append_left _ (List.mem_append_right _ (List.mem_append_left _ (List.mem_of_getElem? (i := 7) rfl))))) (am_cons (List.mem_cons_of_mem _ (List.mem_append_left _ (List.mem_append_right _ (List.mem_append_left _ (List.mem_of_getElem? (i := 8) rfl))))) (am_cons (List.mem_cons_of_mem _ (List.mem_append_left _ (List.mem_append_right _ (List.mem_append_left _ (List.mem_of_getElem? (i := 9) rfl))))) (am_cons (List.mem_cons_of_mem _ (List.mem_append_left _ (List.mem_append_right _ (List.mem_append_left _ (List.mem_of_getElem? (i := 10) rfl))))) (am_cons (List.mem_cons_of_mem _ (List.mem_append_left _ (List.mem_append_right _ (List.mem_append_left _ (List.mem_of_getElem? (i := 11) rfl))))) (am_cons (List.mem_cons_of_mem _ (List.mem_append_left _ (List.mem_append_right _ (List.mem_append_left _ (List.mem_of_getElem? (i := 12) rfl))))) (am_cons (List.mem_cons_of_mem _ (List.mem_append_left _ (List.mem_append_right _ (List.mem_append_left _ (List.mem_of_getElem? (i := 13) rfl))))) (am_cons (List.mem_cons_of_mem _ (List.mem_append_left _ (List.mem_append_right _ (List.mem_append_left _ (List.mem_of_getElem? (i := 14) rfl))))) (am_cons (List.mem_cons_of_mem _ (List.mem_append_left _ (List.mem_append_right _ (List.mem_append_left _ (List.mem_of_getElem? (i := 15) rfl))))) am_nil)))))))))))))))))))))))) (am_cons (List.mem_cons_of_mem _ (List.mem_append_left _ (List.mem_append_right _ (List.mem_append_left _ (List.mem_of_getElem? (i := 16) rfl))))) (am_cons (List.mem_cons_of_mem _ (List.mem_append_left _ (List.mem_append_right _ (List.mem_append_left _ (List.mem_of_getElem? (i := 17) rfl))))) (am_cons (List.mem_cons_of_mem _ (List.mem_append_left _ (List.mem_append_right _ (List.mem_append_left _ (List.mem_of_getElem? (i := 18) rfl))))) (am_cons (List.mem_cons_of_mem _ (List.mem_append_left _ (List.mem_append_right _ (List.mem_append_left _ (List.mem_of_getElem? (i := 19) rfl))))) (am_cons (List.mem_cons_of_mem _ (List.mem_append_left _ (List.mem_append_right _ (List.mem_append_left _ (List.mem_of_getElem? (i := 20) rfl))))) (am_cons (List.mem_cons_of_mem _ (List.mem_append_left _ (List.mem_append_right _ (List.mem_append_left _ (List.mem_of_getElem? (i := 21) rfl))))) (am_cons (List.mem_cons_of_mem _ (List.mem_append_left _ (List.mem_append_right _ (List.mem_append_left _ (List.mem_of_getElem? (i := 22) rfl))))) (am_cons (List.mem_cons_of_mem _ (List.mem_append_left _ (List.mem_append_right _ (List.mem_append_left _ (List.mem_of_getElem? (i := 23) rfl))))) (am_cons (List.mem_cons_of_mem _ (List.mem_append_left _ (List.mem_append_right _ (List.mem_append_right _ (List.mem_of_getElem? (i := 0) rfl))))) (am_cons (List.mem_cons_of_mem _ (List.mem_append_left _ (List.mem_append_right _ (List.mem_append_right _ (List.mem_of_getElem? (i := 1) rfl))))) (am_cons (List.mem_cons_of_mem _ (List.mem_append_left _ (List.mem_append_right _ (List.mem_append_right _ (List.mem_of_getElem? (i := 2) rfl))))) (am_cons (List.mem_cons_of_mem _ (List.mem_append_left _ (List.mem_append_right _ (List.mem_append_right _ (List.mem_of_getElem? (i := 3) rfl))))) (am_cons (List.mem_cons_of_mem _ (List.mem_append_left _ (List.mem_append_right _ (List.mem_append_right _ (List.mem_of_getElem? (i := 4) rfl))))) (am_cons (List.mem_cons_of_mem _ (List.mem_append_left _ (List.mem_append_right _ (List.mem_append_right _ (List.mem_of_getElem? (i := 5) rfl))))) (am_cons (List.mem_cons_of_mem _ (List.mem_append_left _ (List.mem_append_right _ (List.mem_append_right _ (List.mem_of_getElem? (i := 6) rfl))))) (am_cons (List.mem_cons_of_mem _ (List.mem_append_left _ (List.mem_append_right _ (List.mem_append_right _ (List.mem_of_getElem? (i := 7) rfl))))) (am_cons (List.mem_cons_of_mem _ (List.mem_append_left _ (List.mem_append_right _ (List.mem_append_right _ (List.mem_of_getElem? (i := 8) rfl))))) (am_cons (List.mem_cons_of_mem _ (List.mem_append_left _ (List.mem_append_right _ (List.mem_append_right _ (List.mem_of_getElem? (i := 9) rfl))))) (am_cons (List.mem_cons_of_mem _ (List.mem_append_left _ (List.mem_append_right _ (List.mem_append_right _ (List.mem_of_getElem? (i := 10) rfl))))) (am_cons (List.mem_cons_of_mem _ (List.mem_append_left _ (List.mem_append_right _ (List.mem_append_right _ (List.mem_of_getElem? (i := 11) rfl))))) (am_cons (List.mem_cons_of_mem _ (List.mem_append_left _ (List.mem_append_right _ (List.mem_append_right _ (List.mem_of_getElem? (i := 12) rfl))))) am_nil)))))))))))))))))))))) (fun _ h => List.mem_cons_of_mem _ (List.mem_append_right _ (h))))) (by decide +kernel)
set_option maxRecDepth 20000 in
theorem gX9_explains_X9_explained : GoodIn wsX9_explains (wsV RX9 207 RX9 yX9_explained wsX9_explained) := goodIn_app (goodIn_sub (am_cons (List.mem_cons_of_mem _ (List.mem_append_left _ (List.mem_append_left _ (List.mem_of_getElem? (i := 14) rfl)))) (am_cons (List.mem_cons_of_mem _ (List.mem_append_left _ (List.mem_append_left _ (List.mem_of_getElem? (i := 15) rfl)))) (am_cons (List.mem_cons_of_mem _ (List.mem_append_left _ (List.mem_append_left _ (List.mem_of_getElem? (i := 16) rfl)))) (am_cons (List.mem_cons_of_mem _ (List.mem_append_left _ (List.mem_append_left _ (List.mem_of_getElem? (i := 3) rfl)))) am_nil)))) (by decide +kernel)) ggX9_explains_X9_explained
theorem dX9_explains_0 : decode cX9_explains 0 = .ok (.aload_n 0, 1) := by decide +kernel
theorem dX9_explains_1 : decode cX9_explains 1 = .ok (.iload_n 1, 1) := by decide +kernel
theorem dX9_explains_2 : decode cX9_explains 2 = .ok (.invokevirtual 130, 3) := by decide +kernel
theorem dX9_explains_5 : decode cX9_explains 5 = .ok (.ifCond .eq 11, 3) := by decide +kernel
theorem dX9_explains_8 : decode cX9_explains 8 = .ok (.aload_n 0, 1) := by decide +kernel
theorem dX9_explains_9 : decode cX9_explains 9 = .ok (.iload_n 1, 1) := by decide +kernel
theorem dX9_explains_10 : decode cX9_explains 10 = .ok (.invokevirtual 207, 3) := by decide +kernel
theorem dX9_explains_13 : decode cX9_explains 13 = .ok (.goto 4, 3) := by decide +kernel
theorem dX9_explains_16 : decode cX9_explains 16 = .ok (.iconst (-1), 1) := by decide +kernel
theorem dX9_explains_17 : decode cX9_explains 17 = .ok (.ireturn, 1) := by decide +kernel
set_option maxRecDepth 20000 in
theorem ggX9_named_X9_isPart : GoodIn wsX9_named wsX9_isPart := goodIn_sub (am_cons (List.mem_cons_of_mem _ (List.mem_append_left _ (List.mem_append_left _ (List.mem_of_getElem? (i := 4) rfl)))) (am_app (am_cons (List.mem_cons_of_mem _ (List.mem_append_left _ (List.mem_append_left _ (List.mem_of_getElem? (i := 5) rfl)))) (am_cons (List.mem_cons_of_mem _ (List.mem_append_left _ (List.mem_append_left _ (List.mem_of_getElem? (i := 6) rfl)))) (am_cons (List.mem_cons_of_mem _ (List.mem_append_left _ (List.mem_append_left _ (List.mem_of_getElem? (i := 7) rfl)))) (am_cons (List.mem_cons_of_mem _ (List.mem_append_left _ (List.mem_append_left _ (List.mem_of_getElem? (i := 3) rfl)))) (am_cons (List.mem_cons_of_mem _ (List.mem_append_left _ (List.mem_append_left _ (List.mem_of_getElem? (i := 8) rfl)))) (am_cons (List.mem_cons_of_mem _ (List.mem_append_left _ (List.mem_append_left _ (List.mem_of_getElem? (i := 9) rfl)))) (am_cons (List.mem_cons_of_mem _ (List.mem_append_left _ (List.mem_append_left _ (List.mem_of_getElem? (i := 10) rfl)))) (am_cons (List.mem_cons_of_mem _ (List.mem_append_left _ (List.mem_append_left _ (List.mem_of_getElem? (i := 11) rfl)))) (am_cons (List.mem_cons_of_mem _ (List.mem_append_left _ (List.mem_append_left _ (List.mem_of_getElem? (i := 12) rfl)))) (am_cons (List.mem_cons_of_mem _ (List.mem_append_left _ (List.mem_append_left _ (List.mem_of_getElem? (i := 13) rfl)))) am_nil)))))))))) (fun _ h => List.mem_cons_of_mem _ (List.mem_append_right _ (h))))) (by decide +kernel)
set_option maxRecDepth 20000 in
theorem gX9_named_X9_isPart : GoodIn wsX9_named (wsV RX9 130 RX9 yX9_isPart wsX9_isPart) := goodIn_app (goodIn_sub (am_cons (List.mem_cons_of_mem _ (List.mem_append_left _ (List.mem_append_left _ (List.mem_of_getElem? (i := 0) rfl)))) (am_cons (List.mem_cons_of_mem _ (List.mem_append_left _ (List.mem_append_left _ (List.mem_of_getElem? (i := 1) rfl)))) (am_cons (List.mem_cons_of_mem _ (List.mem_append_left _ (List.mem_append_left _ (List.mem_of_getElem? (i := 2) rfl)))) (am_cons (List.mem_cons_of_mem _ (List.mem_append_left _ (List.mem_append_left _ (List.mem_of_getElem? (i := 3) rfl)))) am_nil)))) (by decide +kernel)) ggX9_named_X9_isPart
set_option maxRecDepth 20000 in
theorem ggX9_named_X9_canBeNamed : GoodIn wsX9_named wsX9_canBeNamed := goodIn_sub (am_cons (List.mem_cons_of_mem _ (List.mem_append_left _ (List.mem_append_left _ (List.mem_of_getElem? (i := 17) rfl)))) (am_app (am_app (am_cons (List.mem_cons_of_mem _ (List.mem_append_left _ (List.mem_append_left _ (List.mem_of_getElem? (i := 18) rfl)))) (am_cons (List.mem_cons_of_mem _ (List.mem_append_left _ (List.mem_append_left _ (List.mem_of_getElem? (i := 19) rfl)))) (am_cons (List.mem_cons_of_mem _ (List.mem_append_left _ (List.mem_append_left _ (List.mem_of_getElem? (i := 20) rfl)))) (am_cons (List.mem_cons_of_mem _ (List.mem_append_left _ (List.mem_append_left _ (List.mem_of_getElem? (i := 3) rfl)))) (am_cons (List.mem_cons_of_mem _ (List.mem_append_left _ (List.mem_append_left _ (List.mem_of_getElem? (i := 21) rfl)))) (am_cons (List.mem_cons_of_mem _ (List.mem_append_left _ (List.mem_append_left _ (List.mem_of_getElem? (i := 22) rfl)))) (am_cons (List.mem_cons_of_mem _ (List.mem_append_left _ (List.mem_append_left _ (List.mem_of_getElem? (i := 23) rfl)))) (am_cons (List.mem_cons_of_mem _ (List.mem_append_left _ (List.mem_append_right _ (List.mem_append_left _ (List.mem_of_getElem? (i := 0) rfl))))) (am_cons (List.mem_cons_of_mem _ (List.mem_append_left _ (List.mem_append_right _ (List.mem_append_left _ (List.mem_of_getElem? (i := 1) rfl))))) (am_cons (List.mem_cons_of_mem _ (List.mem_append_left _ (List.mem_append_left _ (List.mem_of_getElem? (i := 9) rfl)))) (am_cons (List.mem_cons_of_mem _ (List.mem_append_left _ (List.mem_append_right _ (List.mem_append_left _ (List.mem_of_getElem? (i := 2) rfl))))) (am_cons (List.mem_cons_of_mem _ (List.mem_append_left _ (List.mem_append_right _ (List.mem_append_left _ (List.mem_of_getElem? (i := 3) rfl))))) (am_cons (List.mem_cons_of_mem _ (List.mem_append_left _ (List.mem_append_right _ (List.mem_append_left _ (List.mem_of_getElem? (i := 4) rfl))))) (am_cons (List.mem_cons_of_mem _ (List.mem_append_left _ (List.mem_append_right _ (List.mem_append_left _ (List.mem_of_getElem? (i := 5) rfl))))) (am_cons (List.mem_cons_of_mem _ (List.mem_append_left _ (List.mem_append_right _ (List.mem_append_left _ (List.mem_of_getElem? (i := 6) rfl))))) (am_cons (List.mem_cons_of_mem _ (List.mem_append_left _ (List.mem_append_right _ (List.mem_append_left _ (List.mem_of_getElem? (i := 7) rfl))))) (am_cons (List.mem_cons_of_mem _ (List.mem_append_left _ (List.mem_append_right _ (List.mem_append_left _ (List.mem_of_getElem? (i := 8) rfl))))) (am_cons (List.mem_cons_of_mem _ (List.mem_append_left _ (List.mem_append_right _ (List.mem_append_left _ (List.mem_of_getElem? (i := 9) rfl))))) (am_cons (List.mem_cons_of_mem _ (List.mem_append_left _ (List.mem_append_right _ (List.mem_append_left _ (List.mem_of_getElem? (i := 10) rfl))))) (am_cons (List.mem_cons_of_mem _ (List.mem_append_left _ (List.mem_append_right _ (List.mem_append_left _ (List.mem_of_getElem? (i := 11) rfl))))) (am_cons (List.mem_cons_of_mem _ (List.mem_append_left _ (List.mem_append_right _ (List.mem_append_left _ (List.mem_of_getElem? (i := 12) rfl))))) (am_cons (List.mem_cons_of_mem _ (List.mem_append_left _ (List.mem_append_right _ (List.mem_append_left _ (List.mem_of_getElem? (i := 13) rfl))))) (am_cons (List.mem_cons_of_mem _ (List.mem_append_left _ (List.mem_append_right _ (List.mem_append_left _ (List.mem_of_getElem? (i := 14) rfl))))) (am_cons (List.mem_cons_of_mem _ (List.mem_append_left _ (List.mem_append_right _ (List.mem_append_left _ (List.mem_of_getElem? (i := 15) rfl))))) am_nil)))))))))))))))))))))))) (am_cons (List.mem_cons_of_mem _ (List.mem_append_left _ (List.mem_append_right _ (List.mem_append_left _ (List.mem_of_getElem? (i := 16) rfl))))) (am_cons (List.mem_cons_of_mem _ (List.mem_append_left _ (List.mem_append_right _ (List.mem_append_left _ (List.mem_of_getElem? (i := 17) rfl))))) (am_cons (List.mem_cons_of_mem _ (List.mem_append_left _ (List.mem_append_right _ (List.mem_append_left _ (List.mem_of_getElem? (i := 18) rfl))))) (am_cons (List.mem_cons_of_mem _ (List.mem_append_left _ (List.mem_append_right _ (List.mem_append_left _ (List.mem_of_getElem? (i := 19) rfl))))) (am_cons (List.mem_cons_of_mem _ (List.mem_append_left _ (List.mem_append_right _ (List.mem_append_left _ (List.mem_of_getElem? (i := 20) rfl))))) (am_cons (List.mem_cons_of_mem _ (List.mem_append_left _ (List.mem_append_right _ (List.mem_append_left _ (List.mem_of_getElem? (i := 21) rfl))))) (am_cons (List.mem_cons_of_mem _ (List.mem_append_left _ (List.mem_append_right _ (List.mem_append_left _ (List.mem_of_getElem? (i := 22) rfl))))) (am_cons (List.mem_cons_of_mem _ (List.mem_append_left _ (List.mem_append_right _ (List.mem_append_left _ (List.mem_of_getElem? (i := 23) rfl))))) (am_cons (List.mem_cons_of_mem _ (List.mem_append_left _ (List.mem_append_right _ (List.mem_append_right _ (List.mem_of_getElem? (i := 0) rfl))))) (am_cons (List.mem_cons_of_mem _ (List.mem_append_left _ (List.mem_append_right _ (List.mem_append_right _ (List.mem_of_getElem? (i := 1) rfl))))) (am_cons (List.mem_cons_of_mem _ (List.mem_append_left _ (List.mem_append_right _ (List.mem_append_right _ (List.mem_of_getElem? (i := 2) rfl))))) (am_cons (List.mem_cons_of_mem _ (List.mem_append_left _ (List.mem_append_right _ (List.mem_append_right _ (List.mem_of_getElem? (i := 3) rfl))))) (am_cons (List.mem_cons_of_mem _ (List.mem_append_left _ (List.mem_append_right _ (List.mem_append_right _ (List.mem_of_getElem? (i := 4) rfl))))) (am_cons (List.mem_cons_of_mem _ (List.mem_append_left _ (List.mem_append_right _ (List.mem_append_right _ (List.mem_of_getElem? (i := 5) rfl))))) (am_cons (List.mem_cons_of_mem _ (List.mem_append_left _ (List.mem_append_right _ (List.mem_append_right _ (List.mem_of_getElem? (i := 6) rfl))))) (am_cons (List.mem_cons_of_mem _ (List.mem_append_left _ (List.mem_append_right _ (List.mem_append_right _ (List.mem_of_getElem? (i := 7) rfl))))) (am_cons (List.mem_cons_of_mem _ (List.mem_append_left _ (List.mem_append_right _ (List.mem_append_right _ (List.mem_of_getElem? (i := 8) rfl))))) (am_cons (List.mem_cons_of_mem _ (List.mem_append_left _ (List.mem_append_right _ (List.mem_append_right _ (List.mem_of_getElem? (i := 9) rfl))))) (am_cons (List.mem_cons_of_mem _ (List.mem_append_left _ (List.mem_append_right _ (List.mem_append_right _ (List.mem_of_getElem? (i := 10) rfl))))) (am_cons (List.mem_cons_of_mem _ (List.mem_append_left _ (List.mem_append_right _ (List.mem_append_right _ (List.mem_of_getElem? (i := 11) rfl))))) (am_cons (List.mem_cons_of_mem _ (List.mem_append_left _ (List.mem_append_right _ (List.mem_append_right _ (List.mem_of_getElem? (i := 12) rfl))))) am_nil)))))))))))))))))))))) (fun _ h => List.mem_cons_of_mem _ (List.mem_append_right _ (h))))) (by decide +kernel)
set_option maxRecDepth 20000 in
theorem gX9_named_X9_canBeNamed : GoodIn wsX9_named (wsV RX9 210 RX9 yX9_canBeNamed wsX9_canBeNamed) := goodIn_app (goodIn_sub (am_cons (List.mem_cons_of_mem _ (List.mem_append_left _ (List.mem_append_left _ (List.mem_of_getElem? (i := 14) rfl)))) (am_cons (List.mem_cons_of_mem _ (List.mem_append_left _ (List.mem_append_left _ (List.mem_of_getElem? (i := 15) rfl)))) (am_cons (List.mem_cons_of_mem _ (List.mem_append_left _ (List.mem_append_left _ (List.mem_of_getElem? (i := 16) rfl)))) (am_cons (List.mem_cons_of_mem _ (List.mem_append_left _ (List.mem_append_left _ (List.mem_of_getElem? (i := 3) rfl)))) am_nil)))) (by decide +kernel)) ggX9_named_X9_canBeNamed
theorem dX9_named_0 : decode cX9_named 0 = .ok (.aload_n 0, 1) := by decide +kernel
theorem dX9_named_1 : decode cX9_named 1 = .ok (.iload_n 1, 1) := by decide +kernel
theorem dX9_named_2 : decode cX9_named 2 = .ok (.invokevirtual 130, 3) := by decide +kernel
theorem dX9_named_5 : decode cX9_named 5 = .ok (.ifCond .ne 7, 3) := by decide +kernel
theorem dX9_named_8 : decode cX9_named 8 = .ok (.iconst (-1), 1) := by decide +kernel
theorem dX9_named_9 : decode cX9_named 9 = .ok (.goto 16, 3) := by decide +kernel
theorem dX9_named_12 : decode cX9_named 12 = .ok (.aload_n 0, 1) := by decide +kernel
theorem dX9_named_13 : decode cX9_named 13 = .ok (.iload_n 1, 1) := by decide +kernel
theorem dX9_named_14 : decode cX9_named 14 = .ok (.invokevirtual 210, 3) := by decide +kernel
theorem dX9_named_17 : decode cX9_named 17 = .ok (.ifCond .eq 7, 3) := by decide +kernel
theorem dX9_named_20 : decode cX9_named 20 = .ok (.iconst 1, 1) := by decide +kernel
theorem dX9_named_21 : decode cX9_named 21 = .ok (.goto 4, 3) := by decide +kernel
theorem dX9_named_24 : decode cX9_named 24 = .ok (.iconst 0, 1) := by decide +kernel
theorem dX9_named_25 : decode cX9_named 25 = .ok (.ireturn, 1) := by decide +kernel
set_option maxRecDepth 20000 in
theorem ggX9_findCovers_X9_parts : GoodIn wsX9_findCovers wsX9_parts := goodIn_sub (am_cons (List.mem_cons_of_mem _ (List.mem_append_left _ (List.mem_append_left _ (List.mem_of_getElem? (i := 5) rfl)))) (am_app (am_cons (List.mem_cons_of_mem _ (List.mem_append_left _ (List.mem_append_left _ (List.mem_of_getElem? (i := 6) rfl)))) (am_cons (List.mem_cons_of_mem _ (List.mem_append_left _ (List.mem_append_left _ (List.mem_of_getElem? (i := 7) rfl)))) am_nil)) (fun _ h => List.mem_cons_of_mem _ (List.mem_append_right _ (h))))) (by decide +kernel)
set_option maxRecDepth 20000 in
theorem gX9_findCovers_X9_parts : GoodIn wsX9_findCovers (wsV RX9 119 RX9 yX9_parts wsX9_parts) := goodIn_app (goodIn_sub (am_cons (List.mem_cons_of_mem _ (List.mem_append_left _ (List.mem_append_left _ (List.mem_of_getElem? (i := 1) rfl)))) (am_cons (List.mem_cons_of_mem _ (List.mem_append_left _ (List.mem_append_left _ (List.mem_of_getElem? (i := 2) rfl)))) (am_cons (List.mem_cons_of_mem _ (List.mem_append_left _ (List.mem_append_left _ (List.mem_of_getElem? (i := 3) rfl)))) (am_cons (List.mem_cons_of_mem _ (List.mem_append_left _ (List.mem_append_left _ (List.mem_of_getElem? (i := 4) rfl)))) am_nil)))) (by decide +kernel)) ggX9_findCovers_X9_parts
set_option maxRecDepth 20000 in
theorem ggX9_findCovers_X9_canBeNamed : GoodIn wsX9_findCovers wsX9_canBeNamed := goodIn_sub (am_cons (List.mem_cons_of_mem _ (List.mem_append_left _ (List.mem_append_left _ (List.mem_of_getElem? (i := 11) rfl)))) (am_app (am_app (am_cons (List.mem_cons_of_mem _ (List.mem_append_left _ (List.mem_append_left _ (List.mem_of_getElem? (i := 12) rfl)))) (am_cons (List.mem_cons_of_mem _ (List.mem_append_left _ (List.mem_append_left _ (List.mem_of_getElem? (i := 13) rfl)))) (am_cons (List.mem_cons_of_mem _ (List.mem_append_left _ (List.mem_append_left _ (List.mem_of_getElem? (i := 14) rfl)))) (am_cons (List.mem_cons_of_mem _ (List.mem_append_left _ (List.mem_append_left _ (List.mem_of_getElem? (i := 4) rfl)))) (am_cons (List.mem_cons_of_mem _ (List.mem_append_left _ (List.mem_append_left _ (List.mem_of_getElem? (i := 15) rfl)))) (am_cons (List.mem_cons_of_mem _ (List.mem_append_left _ (List.mem_append_left _ (List.mem_of_getElem? (i := 16) rfl)))) (am_cons (List.mem_cons_of_mem _ (List.mem_append_left _ (List.mem_append_left _ (List.mem_of_getElem? (i := 17) rfl)))) (am_cons (List.mem_cons_of_mem _ (List.mem_append_left _ (List.mem_append_left _ (List.mem_of_getElem? (i := 18) rfl)))) (am_cons (List.mem_cons_of_mem _ (List.mem_append_left _ (List.mem_append_left _ (List.mem_of_getElem? (i := 19) rfl)))) (am_cons (List.mem_cons_of_mem _ (List.mem_append_left _ (List.mem_append_left _ (List.mem_of_getElem? (i := 6) rfl)))) (am_cons (List.mem_cons_of_mem _ (List.mem_append_left _ (List.mem_append_left _ (List.mem_of_getElem? (i := 20) rfl)))) (am_cons (List.mem_cons_of_mem _ (List.mem_append_left _ (List.mem_append_left _ (List.mem_of_getElem? (i := 21) rfl)))) (am_cons (List.mem_cons_of_mem _ (List.mem_append_left _ (List.mem_append_left _ (List.mem_of_getElem? (i := 22) rfl)))) (am_cons (List.mem_cons_of_mem _ (List.mem_append_left _ (List.mem_append_left _ (List.mem_of_getElem? (i := 23) rfl)))) (am_cons (List.mem_cons_of_mem _ (List.mem_append_left _ (List.mem_append_right _ (List.mem_append_left _ (List.mem_of_getElem? (i := 0) rfl))))) (am_cons (List.mem_cons_of_mem _ (List.mem_append_left _ (List.mem_append_right _ (List.mem_append_left _ (List.mem_of_getElem? (i := 1) rfl))))) (am_cons (List.mem_cons_of_mem _ (List.mem_append_left _ (List.mem_append_right _ (List.mem_append_left _ (List.mem_of_getElem? (i := 2) rfl))))) (am_cons (List.mem_cons_of_mem _ (List.mem_append_left _ (List.mem_append_right _ (List.mem_append_left _ (List.mem_of_getElem? (i := 3) rfl))))) (am_cons (List.mem_cons_of_mem _ (List.mem_append_left _ (List.mem_append_right _ (List.mem_append_left _ (List.mem_of_getElem? (i := 4) rfl))))) (am_cons (List.mem_cons_of_mem _ (List.mem_append_left _ (List.mem_append_right _ (List.mem_append_left _ (List.mem_of_getElem? (i := 5) rfl))))) (am_cons (List.mem_cons_of_mem _ (List.mem_append_left _ (List.mem_append_right _ (List.mem_append_left _ (List.mem_of_getElem? (i := 6) rfl))))) (am_cons (List.mem_cons_of_mem _ (List.mem_append_left _ (List.mem_append_right _ (List.mem_append_left _ (List.mem_of_getElem? (i := 7) rfl))))) (am_cons (List.mem_cons_of_mem _ (List.mem_append_left _ (List.mem_append_right _ (List.mem_append_left _ (List.mem_of_getElem? (i := 8) rfl))))) (am_cons (List.mem_cons_of_mem _ (List.mem_append_left _ (List.mem_append_right _ (List.mem_append_left _ (List.mem_of_getElem? (i := 9) rfl))))) am_nil)))))))))))))))))))))))) (am_cons (List.mem_cons_of_mem _ (List.mem_append_left _ (List.mem_append_right _ (List.mem_append_left _ (List.mem_of_getElem? (i := 10) rfl))))) (am_cons (List.mem_cons_of_mem _ (List.mem_append_left _ (List.mem_append_right _ (List.mem_append_left _ (List.mem_of_getElem? (i := 11) rfl))))) (am_cons (List.mem_cons_of_mem _ (List.mem_append_left _ (List.mem_append_right _ (List.mem_append_left _ (List.mem_of_getElem? (i := 12) rfl))))) (am_cons (List.mem_cons_of_mem _ (List.mem_append_left _ (List.mem_append_right _ (List.mem_append_left _ (List.mem_of_getElem? (i := 13) rfl))))) (am_cons (List.mem_cons_of_mem _ (List.mem_append_left _ (List.mem_append_right _ (List.mem_append_left _ (List.mem_of_getElem? (i := 14) rfl))))) (am_cons (List.mem_cons_of_mem _ (List.mem_append_left _ (List.mem_append_right _ (List.mem_append_left _ (List.mem_of_getElem? (i := 15) rfl))))) (am_cons (List.mem_cons_of_mem _ (List.mem_append_left _ (List.mem_append_right _ (List.mem_append_left _ (List.mem_of_getElem? (i := 16) rfl))))) (am_cons (List.mem_cons_of_mem _ (List.mem_append_left _ (List.mem_append_right _ (List.mem_append_left _ (List.mem_of_getElem? (i := 17) rfl))))) (am_cons (List.mem_cons_of_mem _ (List.mem_append_left _ (List.mem_append_right _ (List.mem_append_left _ (List.mem_of_getElem? (i := 18) rfl))))) (am_cons (List.mem_cons_of_mem _ (List.mem_append_left _ (List.mem_append_right _ (List.mem_append_left _ (List.mem_of_getElem? (i := 19) rfl))))) (am_cons (List.mem_cons_of_mem _ (List.mem_append_left _ (List.mem_append_right _ (List.mem_append_left _ (List.mem_of_getElem? (i := 20) rfl))))) (am_cons (List.mem_cons_of_mem _ (List.mem_append_left _ (List.mem_append_right _ (List.mem_append_left _ (List.mem_of_getElem? (i := 21) rfl))))) (am_cons (List.mem_cons_of_mem _ (List.mem_append_left _ (List.mem_append_right _ (List.mem_append_left _ (List.mem_of_getElem? (i := 22) rfl))))) (am_cons (List.mem_cons_of_mem _ (List.mem_append_left _ (List.mem_append_right _ (List.mem_append_left _ (List.mem_of_getElem? (i := 23) rfl))))) (am_cons (List.mem_cons_of_mem _ (List.mem_append_left _ (List.mem_append_right _ (List.mem_append_right _ (List.mem_of_getElem? (i := 0) rfl))))) (am_cons (List.mem_cons_of_mem _ (List.mem_append_left _ (List.mem_append_right _ (List.mem_append_right _ (List.mem_of_getElem? (i := 1) rfl))))) (am_cons (List.mem_cons_of_mem _ (List.mem_append_left _ (List.mem_append_right _ (List.mem_append_right _ (List.mem_of_getElem? (i := 2) rfl))))) (am_cons (List.mem_cons_of_mem _ (List.mem_append_left _ (List.mem_append_right _ (List.mem_append_right _ (List.mem_of_getElem? (i := 3) rfl))))) (am_cons (List.mem_cons_of_mem _ (List.mem_append_left _ (List.mem_append_right _ (List.mem_append_right _ (List.mem_of_getElem? (i := 4) rfl))))) (am_cons (List.mem_cons_of_mem _ (List.mem_append_left _ (List.mem_append_right _ (List.mem_append_right _ (List.mem_of_getElem? (i := 5) rfl))))) (am_cons (List.mem_cons_of_mem _ (List.mem_append_left _ (List.mem_append_right _ (List.mem_append_right _ (List.mem_of_getElem? (i := 6) rfl))))) am_nil)))))))))))))))))))))) (fun _ h => List.mem_cons_of_mem _ (List.mem_append_right _ (h))))) (by decide +kernel)
set_option maxRecDepth 20000 in
theorem gX9_findCovers_X9_canBeNamed : GoodIn wsX9_findCovers (wsV RX9 210 RX9 yX9_canBeNamed wsX9_canBeNamed) := goodIn_app (goodIn_sub (am_cons (List.mem_cons_of_mem _ (List.mem_append_left _ (List.mem_append_left _ (List.mem_of_getElem? (i := 8) rfl)))) (am_cons (List.mem_cons_of_mem _ (List.mem_append_left _ (List.mem_append_left _ (List.mem_of_getElem? (i := 9) rfl)))) (am_cons (List.mem_cons_of_mem _ (List.mem_append_left _ (List.mem_append_left _ (List.mem_of_getElem? (i := 10) rfl)))) (am_cons (List.mem_cons_of_mem _ (List.mem_append_left _ (List.mem_append_left _ (List.mem_of_getElem? (i := 4) rfl)))) am_nil)))) (by decide +kernel)) ggX9_findCovers_X9_canBeNamed
set_option maxRecDepth 20000 in
theorem ggX9_findCovers_X9_explained : GoodIn wsX9_findCovers wsX9_explained := goodIn_sub (am_cons (List.mem_cons_of_mem _ (List.mem_append_left _ (List.mem_append_right _ (List.mem_append_right _ (List.mem_of_getElem? (i := 10) rfl))))) (am_app (am_app (am_cons (List.mem_cons_of_mem _ (List.mem_append_left _ (List.mem_append_left _ (List.mem_of_getElem? (i := 12) rfl)))) (am_cons (List.mem_cons_of_mem _ (List.mem_append_left _ (List.mem_append_left _ (List.mem_of_getElem? (i := 13) rfl)))) (am_cons (List.mem_cons_of_mem _ (List.mem_append_left _ (List.mem_append_left _ (List.mem_of_getElem? (i := 14) rfl)))) (am_cons (List.mem_cons_of_mem _ (List.mem_append_left _ (List.mem_append_left _ (List.mem_of_getElem? (i := 4) rfl)))) (am_cons (List.mem_cons_of_mem _ (List.mem_append_left _ (List.mem_append_left _ (List.mem_of_getElem? (i := 15) rfl)))) (am_cons (List.mem_cons_of_mem _ (List.mem_append_left _ (List.mem_append_left _ (List.mem_of_getElem? (i := 16) rfl)))) (am_cons (List.mem_cons_of_mem _ (List.mem_append_left _ (List.mem_append_left _ (List.mem_of_getElem? (i := 17) rfl)))) (am_cons (List.mem_cons_of_mem _ (List.mem_append_left _ (List.mem_append_left _ (List.mem_of_getElem? (i := 18) rfl)))) (am_cons (List.mem_cons_of_mem _ (List.mem_append_left _ (List.mem_append_left _ (List.mem_of_getElem? (i := 19) rfl)))) (am_cons (List.mem_cons_of_mem _ (List.mem_append_left _ (List.mem_append_left _ (List.mem_of_getElem? (i := 6) rfl)))) (am_cons (List.mem_cons_of_mem _ (List.mem_append_left _ (List.mem_append_left _ (List.mem_of_getElem? (i := 20) rfl)))) (am_cons (List.mem_cons_of_mem _ (List.mem_append_left _ (List.mem_append_left _ (List.mem_of_getElem? (i := 21) rfl)))) (am_cons (List.mem_cons_of_mem _ (List.mem_append_left _ (List.mem_append_left _ (List.mem_of_getElem? (i := 22) rfl)))) (am_cons (List.mem_cons_of_mem _ (List.mem_append_left _ (List.mem_append_left _ (List.mem_of_getElem? (i := 23) rfl)))) (am_cons (List.mem_cons_of_mem _ (List.mem_append_left _ (List.mem_append_right _ (List.mem_append_left _ (List.mem_of_getElem? (i := 0) rfl))))) (am_cons (List.mem_cons_of_mem _ (List.mem_append_left _ (List.mem_append_right _ (List.mem_append_left _ (List.mem_of_getElem? (i := 1) rfl))))) (am_cons (List.mem_cons_of_mem _ (List.mem_append_left _ (List.mem_append_right _ (List.mem_append_left _ (List.mem_of_getElem? (i := 2) rfl))))) (am_cons (List.mem_cons_of_mem _ (List.mem_append_left _ (List.mem_append_right _ (List.mem_append_left _ (List.mem_of_getElem? (i := 3) rfl))))) (am_cons (List.mem_cons_of_mem _ (List.mem_append_left _ (List.mem_append_right _ (List.mem_append_left _ (List.mem_of_getElem? (i := 4) rfl))))) (am_cons (List.mem_cons_of_mem _ (List.mem_append_left _ (List.mem_append_right _ (List.mem_append_left _ (List.mem_of_getElem? (i := 5) rfl))))) (am_cons (List.mem_cons_of_mem _ (List.mem_append_left _ (List.mem_append_right _ (List.mem_append_left _ (List.mem_of_getElem? (i := 6) rfl))))) (am_cons (List.mem_cons_of_mem _ (List.mem_append_left _ (List.mem_append_right _ (List.mem_append_left _ (List.mem_of_getElem? (i := 7) rfl))))) (am_cons (List.mem_cons_of_mem _ (List.mem_append_left _ (List.mem_append_right _ (List.mem_append_left _ (List.mem_of_getElem? (i := 8) rfl))))) (am_cons (List.mem_cons_of_mem _ (List.mem_append_left _ (List.mem_append_right _ (List.mem_append_left _ (List.mem_of_getElem? (i := 9) rfl))))) am_nil)))))))))))))))))))))))) (am_cons (List.mem_cons_of_mem _ (List.mem_append_left _ (List.mem_append_right _ (List.mem_append_left _ (List.mem_of_getElem? (i := 10) rfl))))) (am_cons (List.mem_cons_of_mem _ (List.mem_append_left _ (List.mem_append_right _ (List.mem_append_left _ (List.mem_of_getElem? (i := 11) rfl))))) (am_cons (List.mem_cons_of_mem _ (List.mem_append_left _ (List.mem_append_right _ (List.mem_append_left _ (List.mem_of_getElem? (i := 12) rfl))))) (am_cons (List.mem_cons_of_mem _ (List.mem_append_left _ (List.mem_append_right _ (List.mem_append_left _ (List.mem_of_getElem? (i := 13) rfl))))) (am_cons (List.mem_cons_of_mem _ (List.mem_append_left _ (List.mem_append_right _ (List.mem_append_left _ (List.mem_of_getElem? (i := 14) rfl))))) (am_cons (List.mem_cons_of_mem _ (List.mem_append_left _ (List.mem_append_right _ (List.mem_append_left _ (List.mem_of_getElem? (i := 15) rfl))))) (am_cons (List.mem_cons_of_mem _ (List.mem_append_left _ (List.mem_append_right _ (List.mem_append_left _ (List.mem_of_getElem? (i := 16) rfl))))) (am_cons (List.mem_cons_of_mem _ (List.mem_append_left _ (List.mem_append_right _ (List.mem_append_left _ (List.mem_of_getElem? (i := 17) rfl))))) (am_cons (List.mem_cons_of_mem _ (List.mem_append_left _ (List.mem_append_right _ (List.mem_append_left _ (List.mem_of_getElem? (i := 18) rfl))))) (am_cons (List.mem_cons_of_mem _ (List.mem_append_left _ (List.mem_append_right _ (List.mem_append_left _ (List.mem_of_getElem? (i := 19) rfl))))) (am_cons (List.mem_cons_of_mem _ (List.mem_append_left _ (List.mem_append_right _ (List.mem_append_left _ (List.mem_of_getElem? (i := 20) rfl))))) (am_cons (List.mem_cons_of_mem _ (List.mem_append_left _ (List.mem_append_right _ (List.mem_append_left _ (List.mem_of_getElem? (i := 21) rfl))))) (am_cons (List.mem_cons_of_mem _ (List.mem_append_left _ (List.mem_append_right _ (List.mem_append_left _ (List.mem_of_getElem? (i := 22) rfl))))) (am_cons (List.mem_cons_of_mem _ (List.mem_append_left _ (List.mem_append_right _ (List.mem_append_left _ (List.mem_of_getElem? (i := 23) rfl))))) (am_cons (List.mem_cons_of_mem _ (List.mem_append_left _ (List.mem_append_right _ (List.mem_append_right _ (List.mem_of_getElem? (i := 0) rfl))))) (am_cons (List.mem_cons_of_mem _ (List.mem_append_left _ (List.mem_append_right _ (List.mem_append_right _ (List.mem_of_getElem? (i := 1) rfl))))) (am_cons (List.mem_cons_of_mem _ (List.mem_append_left _ (List.mem_append_right _ (List.mem_append_right _ (List.mem_of_getElem? (i := 2) rfl))))) (am_cons (List.mem_cons_of_mem _ (List.mem_append_left _ (List.mem_append_right _ (List.mem_append_right _ (List.mem_of_getElem? (i := 3) rfl))))) (am_cons (List.mem_cons_of_mem _ (List.mem_append_left _ (List.mem_append_right _ (List.mem_append_right _ (List.mem_of_getElem? (i := 4) rfl))))) (am_cons (List.mem_cons_of_mem _ (List.mem_append_left _ (List.mem_append_right _ (List.mem_append_right _ (List.mem_of_getElem? (i := 5) rfl))))) (am_cons (List.mem_cons_of_mem _ (List.mem_append_left _ (List.mem_append_right _ (List.mem_append_right _ (List.mem_of_getElem? (i := 6) rfl))))) am_nil)))))))))))))))))))))) (fun _ h => List.mem_cons_of_mem _ (List.mem_append_right _ (h))))) (by decide +kernel)
set_option maxRecDepth 20000 in
theorem gX9_findCovers_X9_explained : GoodIn wsX9_findCovers (wsV RX9 207 RX9 yX9_explained wsX9_explained) := goodIn_app (goodIn_sub (am_cons (List.mem_cons_of_mem _ (List.mem_append_left _ (List.mem_append_right _ (List.mem_append_right _ (List.mem_of_getElem? (i := 7) rfl))))) (am_cons (List.mem_cons_of_mem _ (List.mem_append_left _ (List.mem_append_right _ (List.mem_append_right _ (List.mem_of_getElem? (i := 8) rfl))))) (am_cons (List.mem_cons_of_mem _ (List.mem_append_left _ (List.mem_append_right _ (List.mem_append_right _ (List.mem_of_getElem? (i := 9) rfl))))) (am_cons (List.mem_cons_of_mem _ (List.mem_append_left _ (List.mem_append_left _ (List.mem_of_getElem? (i := 4) rfl)))) am_nil)))) (by decide +kernel)) ggX9_findCovers_X9_explained
theorem dX9_findCovers_0 : decode cX9_findCovers 0 = .ok (.iconst 0, 1) := by decide +kernel
theorem dX9_findCovers_1 : decode cX9_findCovers 1 = .ok (.istore_n 1, 1) := by decide +kernel
theorem dX9_findCovers_2 : decode cX9_findCovers 2 = .ok (.iconst 0, 1) := by decide +kernel
theorem dX9_findCovers_3 : decode cX9_findCovers 3 = .ok (.istore_n 2, 1) := by decide +kernel
theorem dX9_findCovers_4 : decode cX9_findCovers 4 = .ok (.iload_n 2, 1) := by decide +kernel
theorem dX9_findCovers_5 : decode cX9_findCovers 5 = .ok (.aload_n 0, 1) := by decide +kernel
theorem dX9_findCovers_6 : decode cX9_findCovers 6 = .ok (.invokevirtual 119, 3) := by decide +kernel
theorem dX9_findCovers_9 : decode cX9_findCovers 9 = .ok (.if_icmp .ge 41, 3) := by decide +kernel
theorem dX9_findCovers_12 : decode cX9_findCovers 12 = .ok (.aload_n 0, 1) := by decide +kernel
theorem dX9_findCovers_13 : decode cX9_findCovers 13 = .ok (.getfield 69, 3) := by decide +kernel
theorem dX9_findCovers_16 : decode cX9_findCovers 16 = .ok (.iload_n 2, 1) := by decide +kernel
theorem dX9_findCovers_17 : decode cX9_findCovers 17 = .ok (.aload_n 0, 1) := by decide +kernel
theorem dX9_findCovers_18 : decode cX9_findCovers 18 = .ok (.iload_n 2, 1) := by decide +kernel
theorem dX9_findCovers_19 : decode cX9_findCovers 19 = .ok (.invokevirtual 210, 3) := by decide +kernel
theorem dX9_findCovers_22 : decode cX9_findCovers 22 = .ok (.ifCond .eq 11, 3) := by decide +kernel
theorem dX9_findCovers_25 : decode cX9_findCovers 25 = .ok (.aload_n 0, 1) := by decide +kernel
theorem dX9_findCovers_26 : decode cX9_findCovers 26 = .ok (.iload_n 2, 1) := by decide +kernel
theorem dX9_findCovers_27 : decode cX9_findCovers 27 = .ok (.invokevirtual 207, 3) := by decide +kernel
theorem dX9_findCovers_30 : decode cX9_findCovers 30 = .ok (.goto 4, 3) := by decide +kernel
theorem dX9_findCovers_33 : decode cX9_findCovers 33 = .ok (.iconst 0, 1) := by decide +kernel
theorem dX9_findCovers_34 : decode cX9_findCovers 34 = .ok (.iastore, 1) := by decide +kernel
theorem dX9_findCovers_35 : decode cX9_findCovers 35 = .ok (.iload_n 1, 1) := by decide +kernel
theorem dX9_findCovers_36 : decode cX9_findCovers 36 = .ok (.aload_n 0, 1) := by decide +kernel
theorem dX9_findCovers_37 : decode cX9_findCovers 37 = .ok (.getfield 69, 3) := by decide +kernel
theorem dX9_findCovers_40 : decode cX9_findCovers 40 = .ok (.iload_n 2, 1) := by decide +kernel
theorem dX9_findCovers_41 : decode cX9_findCovers 41 = .ok (.iaload, 1) := by decide +kernel
theorem dX9_findCovers_42 : decode cX9_findCovers 42 = .ok (.ior, 1) := by decide +kernel
theorem dX9_findCovers_43 : decode cX9_findCovers 43 = .ok (.istore_n 1, 1) := by decide +kernel
theorem dX9_findCovers_44 : decode cX9_findCovers 44 = .ok (.iinc 2 1, 3) := by decide +kernel
theorem dX9_findCovers_47 : decode cX9_findCovers 47 = .ok (.goto (-43), 3) := by decide +kernel
theorem dX9_findCovers_50 : decode cX9_findCovers 50 = .ok (.iload_n 1, 1) := by decide +kernel
theorem dX9_findCovers_51 : decode cX9_findCovers 51 = .ok (.ireturn, 1) := by decide +kernel
set_option maxRecDepth 20000 in
theorem ggX9_findFewest_X9_parts : GoodIn wsX9_findFewest wsX9_parts := goodIn_sub (am_cons (List.mem_cons_of_mem _ (List.mem_append_left _ (List.mem_of_getElem? (i := 6) rfl))) (am_app (am_cons (List.mem_cons_of_mem _ (List.mem_append_left _ (List.mem_of_getElem? (i := 7) rfl))) (am_cons (List.mem_cons_of_mem _ (List.mem_append_left _ (List.mem_of_getElem? (i := 8) rfl))) am_nil)) (fun _ h => List.mem_cons_of_mem _ (List.mem_append_right _ (h))))) (by decide +kernel)
set_option maxRecDepth 20000 in
theorem gX9_findFewest_X9_parts : GoodIn wsX9_findFewest (wsV RX9 119 RX9 yX9_parts wsX9_parts) := goodIn_app (goodIn_sub (am_cons (List.mem_cons_of_mem _ (List.mem_append_left _ (List.mem_of_getElem? (i := 2) rfl))) (am_cons (List.mem_cons_of_mem _ (List.mem_append_left _ (List.mem_of_getElem? (i := 3) rfl))) (am_cons (List.mem_cons_of_mem _ (List.mem_append_left _ (List.mem_of_getElem? (i := 4) rfl))) (am_cons (List.mem_cons_of_mem _ (List.mem_append_left _ (List.mem_of_getElem? (i := 5) rfl))) am_nil)))) (by decide +kernel)) ggX9_findFewest_X9_parts
theorem dX9_findFewest_0 : decode cX9_findFewest 0 = .ok (.aload_n 0, 1) := by decide +kernel
theorem dX9_findFewest_1 : decode cX9_findFewest 1 = .ok (.invokevirtual 119, 3) := by decide +kernel
theorem dX9_findFewest_4 : decode cX9_findFewest 4 = .ok (.istore_n 1, 1) := by decide +kernel
theorem dX9_findFewest_5 : decode cX9_findFewest 5 = .ok (.iconst 0, 1) := by decide +kernel
theorem dX9_findFewest_6 : decode cX9_findFewest 6 = .ok (.istore_n 2, 1) := by decide +kernel
theorem dX9_findFewest_7 : decode cX9_findFewest 7 = .ok (.iload_n 2, 1) := by decide +kernel
theorem dX9_findFewest_8 : decode cX9_findFewest 8 = .ok (.sipush 4096, 3) := by decide +kernel
theorem dX9_findFewest_11 : decode cX9_findFewest 11 = .ok (.if_icmp .ge 32, 3) := by decide +kernel
theorem dX9_findFewest_14 : decode cX9_findFewest 14 = .ok (.aload_n 0, 1) := by decide +kernel
theorem dX9_findFewest_15 : decode cX9_findFewest 15 = .ok (.getfield 73, 3) := by decide +kernel
theorem dX9_findFewest_18 : decode cX9_findFewest 18 = .ok (.sipush 4096, 3) := by decide +kernel
theorem dX9_findFewest_21 : decode cX9_findFewest 21 = .ok (.iload_n 1, 1) := by decide +kernel
theorem dX9_findFewest_22 : decode cX9_findFewest 22 = .ok (.imul, 1) := by decide +kernel
theorem dX9_findFewest_23 : decode cX9_findFewest 23 = .ok (.iload_n 2, 1) := by decide +kernel
theorem dX9_findFewest_24 : decode cX9_findFewest 24 = .ok (.iadd, 1) := by decide +kernel
theorem dX9_findFewest_25 : decode cX9_findFewest 25 = .ok (.iload_n 2, 1) := by decide +kernel
theorem dX9_findFewest_26 : decode cX9_findFewest 26 = .ok (.ifCond .ne 7, 3) := by decide +kernel
theorem dX9_findFewest_29 : decode cX9_findFewest 29 = .ok (.iconst 0, 1) := by decide +kernel
theorem dX9_findFewest_30 : decode cX9_findFewest 30 = .ok (.goto 6, 3) := by decide +kernel
theorem dX9_findFewest_33 : decode cX9_findFewest 33 = .ok (.sipush 1000, 3) := by decide +kernel
theorem dX9_findFewest_36 : decode cX9_findFewest 36 = .ok (.iastore, 1) := by decide +kernel
theorem dX9_findFewest_37 : decode cX9_findFewest 37 = .ok (.iinc 2 1, 3) := by decide +kernel
theorem dX9_findFewest_40 : decode cX9_findFewest 40 = .ok (.goto (-33), 3) := by decide +kernel
theorem dX9_findFewest_43 : decode cX9_findFewest 43 = .ok (.iload_n 1, 1) := by decide +kernel
theorem dX9_findFewest_44 : decode cX9_findFewest 44 = .ok (.iconst 1, 1) := by decide +kernel
theorem dX9_findFewest_45 : decode cX9_findFewest 45 = .ok (.isub, 1) := by decide +kernel
theorem dX9_findFewest_46 : decode cX9_findFewest 46 = .ok (.istore_n 2, 1) := by decide +kernel
theorem dX9_findFewest_47 : decode cX9_findFewest 47 = .ok (.iload_n 2, 1) := by decide +kernel
theorem dX9_findFewest_48 : decode cX9_findFewest 48 = .ok (.ifCond .lt 108, 3) := by decide +kernel
theorem dX9_findFewest_51 : decode cX9_findFewest 51 = .ok (.iconst 0, 1) := by decide +kernel
theorem dX9_findFewest_52 : decode cX9_findFewest 52 = .ok (.istore_n 3, 1) := by decide +kernel
theorem dX9_findFewest_53 : decode cX9_findFewest 53 = .ok (.iload_n 3, 1) := by decide +kernel
theorem dX9_findFewest_54 : decode cX9_findFewest 54 = .ok (.sipush 4096, 3) := by decide +kernel
theorem dX9_findFewest_57 : decode cX9_findFewest 57 = .ok (.if_icmp .ge 93, 3) := by decide +kernel
theorem dX9_findFewest_60 : decode cX9_findFewest 60 = .ok (.aload_n 0, 1) := by decide +kernel
theorem dX9_findFewest_61 : decode cX9_findFewest 61 = .ok (.getfield 73, 3) := by decide +kernel
theorem dX9_findFewest_64 : decode cX9_findFewest 64 = .ok (.sipush 4096, 3) := by decide +kernel
theorem dX9_findFewest_67 : decode cX9_findFewest 67 = .ok (.iload_n 2, 1) := by decide +kernel
theorem dX9_findFewest_68 : decode cX9_findFewest 68 = .ok (.iconst 1, 1) := by decide +kernel
theorem dX9_findFewest_69 : decode cX9_findFewest 69 = .ok (.iadd, 1) := by decide +kernel
theorem dX9_findFewest_70 : decode cX9_findFewest 70 = .ok (.imul, 1) := by decide +kernel
theorem dX9_findFewest_71 : decode cX9_findFewest 71 = .ok (.iload_n 3, 1) := by decide +kernel
theorem dX9_findFewest_72 : decode cX9_findFewest 72 = .ok (.iadd, 1) := by decide +kernel
theorem dX9_findFewest_73 : decode cX9_findFewest 73 = .ok (.iaload, 1) := by decide +kernel
theorem dX9_findFewest_74 : decode cX9_findFewest 74 = .ok (.istore 4, 2) := by decide +kernel
theorem dX9_findFewest_76 : decode cX9_findFewest 76 = .ok (.aload_n 0, 1) := by decide +kernel
theorem dX9_findFewest_77 : decode cX9_findFewest 77 = .ok (.getfield 69, 3) := by decide +kernel
theorem dX9_findFewest_80 : decode cX9_findFewest 80 = .ok (.iload_n 2, 1) := by decide +kernel
theorem dX9_findFewest_81 : decode cX9_findFewest 81 = .ok (.iaload, 1) := by decide +kernel
theorem dX9_findFewest_82 : decode cX9_findFewest 82 = .ok (.ifCond .ne 9, 3) := by decide +kernel
theorem dX9_findFewest_85 : decode cX9_findFewest 85 = .ok (.sipush 1000, 3) := by decide +kernel
theorem dX9_findFewest_88 : decode cX9_findFewest 88 = .ok (.goto 28, 3) := by decide +kernel
theorem dX9_findFewest_91 : decode cX9_findFewest 91 = .ok (.iconst 1, 1) := by decide +kernel
theorem dX9_findFewest_92 : decode cX9_findFewest 92 = .ok (.aload_n 0, 1) := by decide +kernel
theorem dX9_findFewest_93 : decode cX9_findFewest 93 = .ok (.getfield 73, 3) := by decide +kernel
theorem dX9_findFewest_96 : decode cX9_findFewest 96 = .ok (.sipush 4096, 3) := by decide +kernel
theorem dX9_findFewest_99 : decode cX9_findFewest 99 = .ok (.iload_n 2, 1) := by decide +kernel
theorem dX9_findFewest_100 : decode cX9_findFewest 100 = .ok (.iconst 1, 1) := by decide +kernel
theorem dX9_findFewest_101 : decode cX9_findFewest 101 = .ok (.iadd, 1) := by decide +kernel
theorem dX9_findFewest_102 : decode cX9_findFewest 102 = .ok (.imul, 1) := by decide +kernel
theorem dX9_findFewest_103 : decode cX9_findFewest 103 = .ok (.iload_n 3, 1) := by decide +kernel
theorem dX9_findFewest_104 : decode cX9_findFewest 104 = .ok (.aload_n 0, 1) := by decide +kernel
theorem dX9_findFewest_105 : decode cX9_findFewest 105 = .ok (.getfield 69, 3) := by decide +kernel
theorem dX9_findFewest_108 : decode cX9_findFewest 108 = .ok (.iload_n 2, 1) := by decide +kernel
theorem dX9_findFewest_109 : decode cX9_findFewest 109 = .ok (.iaload, 1) := by decide +kernel
theorem dX9_findFewest_110 : decode cX9_findFewest 110 = .ok (.iconst (-1), 1) := by decide +kernel
theorem dX9_findFewest_111 : decode cX9_findFewest 111 = .ok (.ixor, 1) := by decide +kernel
theorem dX9_findFewest_112 : decode cX9_findFewest 112 = .ok (.iand, 1) := by decide +kernel
theorem dX9_findFewest_113 : decode cX9_findFewest 113 = .ok (.iadd, 1) := by decide +kernel
theorem dX9_findFewest_114 : decode cX9_findFewest 114 = .ok (.iaload, 1) := by decide +kernel
theorem dX9_findFewest_115 : decode cX9_findFewest 115 = .ok (.iadd, 1) := by decide +kernel
theorem dX9_findFewest_116 : decode cX9_findFewest 116 = .ok (.istore 5, 2) := by decide +kernel
theorem dX9_findFewest_118 : decode cX9_findFewest 118 = .ok (.aload_n 0, 1) := by decide +kernel
theorem dX9_findFewest_119 : decode cX9_findFewest 119 = .ok (.getfield 73, 3) := by decide +kernel
theorem dX9_findFewest_122 : decode cX9_findFewest 122 = .ok (.sipush 4096, 3) := by decide +kernel
theorem dX9_findFewest_125 : decode cX9_findFewest 125 = .ok (.iload_n 2, 1) := by decide +kernel
theorem dX9_findFewest_126 : decode cX9_findFewest 126 = .ok (.imul, 1) := by decide +kernel
theorem dX9_findFewest_127 : decode cX9_findFewest 127 = .ok (.iload_n 3, 1) := by decide +kernel
theorem dX9_findFewest_128 : decode cX9_findFewest 128 = .ok (.iadd, 1) := by decide +kernel
theorem dX9_findFewest_129 : decode cX9_findFewest 129 = .ok (.iload 5, 2) := by decide +kernel
theorem dX9_findFewest_131 : decode cX9_findFewest 131 = .ok (.iload 4, 2) := by decide +kernel
theorem dX9_findFewest_133 : decode cX9_findFewest 133 = .ok (.if_icmp .ge 8, 3) := by decide +kernel
theorem dX9_findFewest_136 : decode cX9_findFewest 136 = .ok (.iload 5, 2) := by decide +kernel
theorem dX9_findFewest_138 : decode cX9_findFewest 138 = .ok (.goto 5, 3) := by decide +kernel
theorem dX9_findFewest_141 : decode cX9_findFewest 141 = .ok (.iload 4, 2) := by decide +kernel
theorem dX9_findFewest_143 : decode cX9_findFewest 143 = .ok (.iastore, 1) := by decide +kernel
theorem dX9_findFewest_144 : decode cX9_findFewest 144 = .ok (.iinc 3 1, 3) := by decide +kernel
theorem dX9_findFewest_147 : decode cX9_findFewest 147 = .ok (.goto (-94), 3) := by decide +kernel
theorem dX9_findFewest_150 : decode cX9_findFewest 150 = .ok (.iinc 2 (-1), 3) := by decide +kernel
theorem dX9_findFewest_153 : decode cX9_findFewest 153 = .ok (.goto (-106), 3) := by decide +kernel
theorem dX9_findFewest_156 : decode cX9_findFewest 156 = .ok (.return_, 1) := by decide +kernel
set_option maxRecDepth 20000 in
theorem ggX9_heap_X9_findCovers : GoodIn wsX9_heap wsX9_findCovers := goodIn_sub (am_cons (List.mem_cons_of_mem _ (List.mem_append_left _ (List.mem_append_left _ (List.mem_of_getElem? (i := 7) rfl)))) (am_app (am_app (am_cons (List.mem_cons_of_mem _ (List.mem_append_left _ (List.mem_append_left _ (List.mem_of_getElem? (i := 2) rfl)))) (am_cons (List.mem_cons_of_mem _ (List.mem_append_left _ (List.mem_append_left _ (List.mem_of_getElem? (i := 8) rfl)))) (am_cons (List.mem_cons_of_mem _ (List.mem_append_left _ (List.mem_append_left _ (List.mem_of_getElem? (i := 9) rfl)))) (am_cons (List.mem_cons_of_mem _ (List.mem_append_left _ (List.mem_append_left _ (List.mem_of_getElem? (i := 10) rfl)))) (am_cons (List.mem_cons_of_mem _ (List.mem_append_left _ (List.mem_append_left _ (List.mem_of_getElem? (i := 6) rfl)))) (am_cons (List.mem_cons_of_mem _ (List.mem_append_left _ (List.mem_append_left _ (List.mem_of_getElem? (i := 11) rfl)))) (am_cons (List.mem_cons_of_mem _ (List.mem_append_left _ (List.mem_append_left _ (List.mem_of_getElem? (i := 12) rfl)))) (am_cons (List.mem_cons_of_mem _ (List.mem_append_left _ (List.mem_append_left _ (List.mem_of_getElem? (i := 13) rfl)))) (am_cons (List.mem_cons_of_mem _ (List.mem_append_left _ (List.mem_append_left _ (List.mem_of_getElem? (i := 14) rfl)))) (am_cons (List.mem_cons_of_mem _ (List.mem_append_left _ (List.mem_append_left _ (List.mem_of_getElem? (i := 15) rfl)))) (am_cons (List.mem_cons_of_mem _ (List.mem_append_left _ (List.mem_append_left _ (List.mem_of_getElem? (i := 16) rfl)))) (am_cons (List.mem_cons_of_mem _ (List.mem_append_left _ (List.mem_append_left _ (List.mem_of_getElem? (i := 17) rfl)))) (am_cons (List.mem_cons_of_mem _ (List.mem_append_left _ (List.mem_append_left _ (List.mem_of_getElem? (i := 18) rfl)))) (am_cons (List.mem_cons_of_mem _ (List.mem_append_left _ (List.mem_append_left _ (List.mem_of_getElem? (i := 19) rfl)))) (am_cons (List.mem_cons_of_mem _ (List.mem_append_left _ (List.mem_append_left _ (List.mem_of_getElem? (i := 20) rfl)))) (am_cons (List.mem_cons_of_mem _ (List.mem_append_left _ (List.mem_append_left _ (List.mem_of_getElem? (i := 21) rfl)))) (am_cons (List.mem_cons_of_mem _ (List.mem_append_left _ (List.mem_append_left _ (List.mem_of_getElem? (i := 22) rfl)))) (am_cons (List.mem_cons_of_mem _ (List.mem_append_left _ (List.mem_append_left _ (List.mem_of_getElem? (i := 23) rfl)))) (am_cons (List.mem_cons_of_mem _ (List.mem_append_left _ (List.mem_append_right _ (List.mem_append_left _ (List.mem_of_getElem? (i := 0) rfl))))) (am_cons (List.mem_cons_of_mem _ (List.mem_append_left _ (List.mem_append_right _ (List.mem_append_left _ (List.mem_of_getElem? (i := 1) rfl))))) (am_cons (List.mem_cons_of_mem _ (List.mem_append_left _ (List.mem_append_right _ (List.mem_append_left _ (List.mem_of_getElem? (i := 2) rfl))))) (am_cons (List.mem_cons_of_mem _ (List.mem_append_left _ (List.mem_append_right _ (List.mem_append_left _ (List.mem_of_getElem? (i := 3) rfl))))) (am_cons (List.mem_cons_of_mem _ (List.mem_append_left _ (List.mem_append_right _ (List.mem_append_left _ (List.mem_of_getElem? (i := 4) rfl))))) (am_cons (List.mem_cons_of_mem _ (List.mem_append_left _ (List.mem_append_right _ (List.mem_append_left _ (List.mem_of_getElem? (i := 5) rfl))))) am_nil)))))))))))))))))))))))) (am_app (am_cons (List.mem_cons_of_mem _ (List.mem_append_left _ (List.mem_append_right _ (List.mem_append_left _ (List.mem_of_getElem? (i := 6) rfl))))) (am_cons (List.mem_cons_of_mem _ (List.mem_append_left _ (List.mem_append_right _ (List.mem_append_left _ (List.mem_of_getElem? (i := 7) rfl))))) (am_cons (List.mem_cons_of_mem _ (List.mem_append_left _ (List.mem_append_right _ (List.mem_append_left _ (List.mem_of_getElem? (i := 8) rfl))))) (am_cons (List.mem_cons_of_mem _ (List.mem_append_left _ (List.mem_append_right _ (List.mem_append_left _ (List.mem_of_getElem? (i := 9) rfl))))) (am_cons (List.mem_cons_of_mem _ (List.mem_append_left _ (List.mem_append_right _ (List.mem_append_left _ (List.mem_of_getElem? (i := 10) rfl))))) (am_cons (List.mem_cons_of_mem _ (List.mem_append_left _ (List.mem_append_right _ (List.mem_append_left _ (List.mem_of_getElem? (i := 11) rfl))))) (am_cons (List.mem_cons_of_mem _ (List.mem_append_left _ (List.mem_append_right _ (List.mem_append_left _ (List.mem_of_getElem? (i := 12) rfl))))) (am_cons (List.mem_cons_of_mem _ (List.mem_append_left _ (List.mem_append_right _ (List.mem_append_left _ (List.mem_of_getElem? (i := 13) rfl))))) (am_cons (List.mem_cons_of_mem _ (List.mem_append_left _ (List.mem_append_right _ (List.mem_append_left _ (List.mem_of_getElem? (i := 14) rfl))))) (am_cons (List.mem_cons_of_mem _ (List.mem_append_left _ (List.mem_append_right _ (List.mem_append_left _ (List.mem_of_getElem? (i := 15) rfl))))) (am_cons (List.mem_cons_of_mem _ (List.mem_append_left _ (List.mem_append_right _ (List.mem_append_left _ (List.mem_of_getElem? (i := 16) rfl))))) (am_cons (List.mem_cons_of_mem _ (List.mem_append_left _ (List.mem_append_right _ (List.mem_append_left _ (List.mem_of_getElem? (i := 17) rfl))))) (am_cons (List.mem_cons_of_mem _ (List.mem_append_left _ (List.mem_append_right _ (List.mem_append_left _ (List.mem_of_getElem? (i := 18) rfl))))) (am_cons (List.mem_cons_of_mem _ (List.mem_append_left _ (List.mem_append_right _ (List.mem_append_left _ (List.mem_of_getElem? (i := 19) rfl))))) (am_cons (List.mem_cons_of_mem _ (List.mem_append_left _ (List.mem_append_right _ (List.mem_append_left _ (List.mem_of_getElem? (i := 20) rfl))))) (am_cons (List.mem_cons_of_mem _ (List.mem_append_left _ (List.mem_append_right _ (List.mem_append_left _ (List.mem_of_getElem? (i := 21) rfl))))) (am_cons (List.mem_cons_of_mem _ (List.mem_append_left _ (List.mem_append_right _ (List.mem_append_left _ (List.mem_of_getElem? (i := 22) rfl))))) (am_cons (List.mem_cons_of_mem _ (List.mem_append_left _ (List.mem_append_right _ (List.mem_append_left _ (List.mem_of_getElem? (i := 23) rfl))))) (am_cons (List.mem_cons_of_mem _ (List.mem_append_left _ (List.mem_append_right _ (List.mem_append_right _ (List.mem_of_getElem? (i := 0) rfl))))) (am_cons (List.mem_cons_of_mem _ (List.mem_append_left _ (List.mem_append_right _ (List.mem_append_right _ (List.mem_of_getElem? (i := 1) rfl))))) (am_cons (List.mem_cons_of_mem _ (List.mem_append_left _ (List.mem_append_right _ (List.mem_append_right _ (List.mem_of_getElem? (i := 2) rfl))))) (am_cons (List.mem_cons_of_mem _ (List.mem_append_left _ (List.mem_append_right _ (List.mem_append_right _ (List.mem_of_getElem? (i := 3) rfl))))) (am_cons (List.mem_cons_of_mem _ (List.mem_append_left _ (List.mem_append_right _ (List.mem_append_right _ (List.mem_of_getElem? (i := 4) rfl))))) (am_cons (List.mem_cons_of_mem _ (List.mem_append_left _ (List.mem_append_right _ (List.mem_append_right _ (List.mem_of_getElem? (i := 5) rfl))))) am_nil)))))))))))))))))))))))) (am_cons (List.mem_cons_of_mem _ (List.mem_append_left _ (List.mem_append_right _ (List.mem_append_right _ (List.mem_of_getElem? (i := 6) rfl))))) (am_cons (List.mem_cons_of_mem _ (List.mem_append_left _ (List.mem_append_right _ (List.mem_append_right _ (List.mem_of_getElem? (i := 7) rfl))))) (am_cons (List.mem_cons_of_mem _ (List.mem_append_left _ (List.mem_append_right _ (List.mem_append_right _ (List.mem_of_getElem? (i := 8) rfl))))) (am_cons (List.mem_cons_of_mem _ (List.mem_append_left _ (List.mem_append_right _ (List.mem_append_right _ (List.mem_of_getElem? (i := 9) rfl))))) (am_cons (List.mem_cons_of_mem _ (List.mem_append_left _ (List.mem_append_right _ (List.mem_append_right _ (List.mem_of_getElem? (i := 10) rfl))))) (am_cons (List.mem_cons_of_mem _ (List.mem_append_left _ (List.mem_append_right _ (List.mem_append_right _ (List.mem_of_getElem? (i := 11) rfl))))) (am_cons (List.mem_cons_of_mem _ (List.mem_append_left _ (List.mem_append_right _ (List.mem_append_right _ (List.mem_of_getElem? (i := 12) rfl))))) (am_cons (List.mem_cons_of_mem _ (List.mem_append_left _ (List.mem_append_right _ (List.mem_append_right _ (List.mem_of_getElem? (i := 13) rfl))))) (am_cons (List.mem_cons_of_mem _ (List.mem_append_left _ (List.mem_append_right _ (List.mem_append_right _ (List.mem_of_getElem? (i := 14) rfl))))) (am_cons (List.mem_cons_of_mem _ (List.mem_append_left _ (List.mem_append_right _ (List.mem_append_right _ (List.mem_of_getElem? (i := 15) rfl))))) (am_cons (List.mem_cons_of_mem _ (List.mem_append_left _ (List.mem_append_right _ (List.mem_append_right _ (List.mem_of_getElem? (i := 16) rfl))))) am_nil))))))))))))) (fun _ h => List.mem_cons_of_mem _ (List.mem_append_right _ (h))))) (by decide +kernel)
set_option maxRecDepth 20000 in
theorem gX9_heap_X9_findCovers : GoodIn wsX9_heap (wsV RX9 213 RX9 yX9_findCovers wsX9_findCovers) := goodIn_app (goodIn_sub (am_cons (List.mem_cons_of_mem _ (List.mem_append_left _ (List.mem_append_left _ (List.mem_of_getElem? (i := 3) rfl)))) (am_cons (List.mem_cons_of_mem _ (List.mem_append_left _ (List.mem_append_left _ (List.mem_of_getElem? (i := 4) rfl)))) (am_cons (List.mem_cons_of_mem _ (List.mem_append_left _ (List.mem_append_left _ (List.mem_of_getElem? (i := 5) rfl)))) (am_cons (List.mem_cons_of_mem _ (List.mem_append_left _ (List.mem_append_left _ (List.mem_of_getElem? (i := 6) rfl)))) am_nil)))) (by decide +kernel)) ggX9_heap_X9_findCovers
set_option maxRecDepth 20000 in
theorem ggX9_heap_X9_findFewest : GoodIn wsX9_heap wsX9_findFewest := goodIn_sub (am_cons (List.mem_cons_of_mem _ (List.mem_append_left _ (List.mem_append_right _ (List.mem_append_right _ (List.mem_of_getElem? (i := 20) rfl))))) (am_app (am_cons (List.mem_cons_of_mem _ (List.mem_append_left _ (List.mem_append_left _ (List.mem_of_getElem? (i := 0) rfl)))) (am_cons (List.mem_cons_of_mem _ (List.mem_append_left _ (List.mem_append_left _ (List.mem_of_getElem? (i := 2) rfl)))) (am_cons (List.mem_cons_of_mem _ (List.mem_append_left _ (List.mem_append_left _ (List.mem_of_getElem? (i := 8) rfl)))) (am_cons (List.mem_cons_of_mem _ (List.mem_append_left _ (List.mem_append_left _ (List.mem_of_getElem? (i := 9) rfl)))) (am_cons (List.mem_cons_of_mem _ (List.mem_append_left _ (List.mem_append_left _ (List.mem_of_getElem? (i := 10) rfl)))) (am_cons (List.mem_cons_of_mem _ (List.mem_append_left _ (List.mem_append_left _ (List.mem_of_getElem? (i := 6) rfl)))) (am_cons (List.mem_cons_of_mem _ (List.mem_append_left _ (List.mem_append_left _ (List.mem_of_getElem? (i := 11) rfl)))) (am_cons (List.mem_cons_of_mem _ (List.mem_append_left _ (List.mem_append_left _ (List.mem_of_getElem? (i := 12) rfl)))) (am_cons (List.mem_cons_of_mem _ (List.mem_append_left _ (List.mem_append_left _ (List.mem_of_getElem? (i := 13) rfl)))) am_nil))))))))) (fun _ h => List.mem_cons_of_mem _ (List.mem_append_right _ (h))))) (by decide +kernel)
set_option maxRecDepth 20000 in
theorem gX9_heap_X9_findFewest : GoodIn wsX9_heap (wsV RX9 216 RX9 yX9_findFewest wsX9_findFewest) := goodIn_app (goodIn_sub (am_cons (List.mem_cons_of_mem _ (List.mem_append_left _ (List.mem_append_right _ (List.mem_append_right _ (List.mem_of_getElem? (i := 17) rfl))))) (am_cons (List.mem_cons_of_mem _ (List.mem_append_left _ (List.mem_append_right _ (List.mem_append_right _ (List.mem_of_getElem? (i := 18) rfl))))) (am_cons (List.mem_cons_of_mem _ (List.mem_append_left _ (List.mem_append_right _ (List.mem_append_right _ (List.mem_of_getElem? (i := 19) rfl))))) (am_cons (List.mem_cons_of_mem _ (List.mem_append_left _ (List.mem_append_left _ (List.mem_of_getElem? (i := 6) rfl)))) am_nil)))) (by decide +kernel)) ggX9_heap_X9_findFewest
set_option maxRecDepth 20000 in
theorem ggX9_heap_X9_in : GoodIn wsX9_heap wsX9_in := goodIn_sub (am_cons (List.mem_cons_of_mem _ (List.mem_append_left _ (List.mem_append_right _ (List.mem_append_right _ (List.mem_of_getElem? (i := 23) rfl))))) (am_nil)) (by decide +kernel)
set_option maxRecDepth 20000 in
theorem gX9_heap_X9_in : GoodIn wsX9_heap (va_wsS RX9 96 yX9_in wsX9_in) := goodIn_app (goodIn_sub (am_cons (List.mem_cons_of_mem _ (List.mem_append_left _ (List.mem_append_right _ (List.mem_append_right _ (List.mem_of_getElem? (i := 21) rfl))))) (am_cons (List.mem_cons_of_mem _ (List.mem_append_left _ (List.mem_append_right _ (List.mem_append_right _ (List.mem_of_getElem? (i := 22) rfl))))) (am_cons (List.mem_cons_of_mem _ (List.mem_append_left _ (List.mem_append_left _ (List.mem_of_getElem? (i := 6) rfl)))) am_nil))) (by decide +kernel)) ggX9_heap_X9_in
set_option maxRecDepth 20000 in
theorem ggX9_heap_X9_parts : GoodIn wsX9_heap wsX9_parts := goodIn_sub (am_cons (List.mem_cons_of_mem _ (List.mem_append_left _ (List.mem_append_left _ (List.mem_of_getElem? (i := 11) rfl)))) (am_app (am_cons (List.mem_cons_of_mem _ (List.mem_append_left _ (List.mem_append_left _ (List.mem_of_getElem? (i := 12) rfl)))) (am_cons (List.mem_cons_of_mem _ (List.mem_append_left _ (List.mem_append_left _ (List.mem_of_getElem? (i := 13) rfl)))) am_nil)) (fun _ h => List.mem_cons_of_mem _ (List.mem_append_right _ (h))))) (by decide +kernel)
set_option maxRecDepth 20000 in
theorem gX9_heap_X9_parts : GoodIn wsX9_heap (wsV RX9 119 RX9 yX9_parts wsX9_parts) := goodIn_app (goodIn_sub (am_cons (List.mem_cons_of_mem _ (List.mem_append_left _ (List.mem_append_left _ (List.mem_of_getElem? (i := 8) rfl)))) (am_cons (List.mem_cons_of_mem _ (List.mem_append_left _ (List.mem_append_left _ (List.mem_of_getElem? (i := 9) rfl)))) (am_cons (List.mem_cons_of_mem _ (List.mem_append_left _ (List.mem_append_left _ (List.mem_of_getElem? (i := 10) rfl)))) (am_cons (List.mem_cons_of_mem _ (List.mem_append_left _ (List.mem_append_left _ (List.mem_of_getElem? (i := 6) rfl)))) am_nil)))) (by decide +kernel)) ggX9_heap_X9_parts
theorem dX9_heap_0 : decode cX9_heap 0 = .ok (.aload_n 0, 1) := by decide +kernel
theorem dX9_heap_1 : decode cX9_heap 1 = .ok (.invokevirtual 213, 3) := by decide +kernel
theorem dX9_heap_4 : decode cX9_heap 4 = .ok (.istore_n 2, 1) := by decide +kernel
theorem dX9_heap_5 : decode cX9_heap 5 = .ok (.aload_n 0, 1) := by decide +kernel
theorem dX9_heap_6 : decode cX9_heap 6 = .ok (.invokevirtual 216, 3) := by decide +kernel
theorem dX9_heap_9 : decode cX9_heap 9 = .ok (.aload_n 0, 1) := by decide +kernel
theorem dX9_heap_10 : decode cX9_heap 10 = .ok (.getfield 73, 3) := by decide +kernel
theorem dX9_heap_13 : decode cX9_heap 13 = .ok (.iload_n 2, 1) := by decide +kernel
theorem dX9_heap_14 : decode cX9_heap 14 = .ok (.iaload, 1) := by decide +kernel
theorem dX9_heap_15 : decode cX9_heap 15 = .ok (.istore_n 3, 1) := by decide +kernel
theorem dX9_heap_16 : decode cX9_heap 16 = .ok (.iload_n 1, 1) := by decide +kernel
theorem dX9_heap_17 : decode cX9_heap 17 = .ok (.i2l, 1) := by decide +kernel
theorem dX9_heap_18 : decode cX9_heap 18 = .ok (.ldc2_w 117, 3) := by decide +kernel
theorem dX9_heap_21 : decode cX9_heap 21 = .ok (.iload_n 3, 1) := by decide +kernel
theorem dX9_heap_22 : decode cX9_heap 22 = .ok (.iconst 1, 1) := by decide +kernel
theorem dX9_heap_23 : decode cX9_heap 23 = .ok (.isub, 1) := by decide +kernel
theorem dX9_heap_24 : decode cX9_heap 24 = .ok (.i2l, 1) := by decide +kernel
theorem dX9_heap_25 : decode cX9_heap 25 = .ok (.invokestatic 96, 3) := by decide +kernel
theorem dX9_heap_28 : decode cX9_heap 28 = .ok (.ifCond .ne 5, 3) := by decide +kernel
theorem dX9_heap_31 : decode cX9_heap 31 = .ok (.iconst (-1), 1) := by decide +kernel
theorem dX9_heap_32 : decode cX9_heap 32 = .ok (.ireturn, 1) := by decide +kernel
theorem dX9_heap_33 : decode cX9_heap 33 = .ok (.iload_n 1, 1) := by decide +kernel
theorem dX9_heap_34 : decode cX9_heap 34 = .ok (.ifCond .ge 5, 3) := by decide +kernel
theorem dX9_heap_37 : decode cX9_heap 37 = .ok (.iload_n 3, 1) := by decide +kernel
theorem dX9_heap_38 : decode cX9_heap 38 = .ok (.ireturn, 1) := by decide +kernel
theorem dX9_heap_39 : decode cX9_heap 39 = .ok (.iconst 0, 1) := by decide +kernel
theorem dX9_heap_40 : decode cX9_heap 40 = .ok (.istore 4, 2) := by decide +kernel
theorem dX9_heap_42 : decode cX9_heap 42 = .ok (.iconst 0, 1) := by decide +kernel
theorem dX9_heap_43 : decode cX9_heap 43 = .ok (.istore 5, 2) := by decide +kernel
theorem dX9_heap_45 : decode cX9_heap 45 = .ok (.iload 5, 2) := by decide +kernel
theorem dX9_heap_47 : decode cX9_heap 47 = .ok (.aload_n 0, 1) := by decide +kernel
theorem dX9_heap_48 : decode cX9_heap 48 = .ok (.invokevirtual 119, 3) := by decide +kernel
theorem dX9_heap_51 : decode cX9_heap 51 = .ok (.if_icmp .ge 98, 3) := by decide +kernel
theorem dX9_heap_54 : decode cX9_heap 54 = .ok (.aload_n 0, 1) := by decide +kernel
theorem dX9_heap_55 : decode cX9_heap 55 = .ok (.getfield 69, 3) := by decide +kernel
theorem dX9_heap_58 : decode cX9_heap 58 = .ok (.iload 5, 2) := by decide +kernel
theorem dX9_heap_60 : decode cX9_heap 60 = .ok (.iaload, 1) := by decide +kernel
theorem dX9_heap_61 : decode cX9_heap 61 = .ok (.ifCond .eq 50, 3) := by decide +kernel
theorem dX9_heap_64 : decode cX9_heap 64 = .ok (.iconst 1, 1) := by decide +kernel
theorem dX9_heap_65 : decode cX9_heap 65 = .ok (.aload_n 0, 1) := by decide +kernel
theorem dX9_heap_66 : decode cX9_heap 66 = .ok (.getfield 73, 3) := by decide +kernel
theorem dX9_heap_69 : decode cX9_heap 69 = .ok (.sipush 4096, 3) := by decide +kernel
theorem dX9_heap_72 : decode cX9_heap 72 = .ok (.iload 5, 2) := by decide +kernel
theorem dX9_heap_74 : decode cX9_heap 74 = .ok (.iconst 1, 1) := by decide +kernel
theorem dX9_heap_75 : decode cX9_heap 75 = .ok (.iadd, 1) := by decide +kernel
theorem dX9_heap_76 : decode cX9_heap 76 = .ok (.imul, 1) := by decide +kernel
theorem dX9_heap_77 : decode cX9_heap 77 = .ok (.iload_n 2, 1) := by decide +kernel
theorem dX9_heap_78 : decode cX9_heap 78 = .ok (.aload_n 0, 1) := by decide +kernel
theorem dX9_heap_79 : decode cX9_heap 79 = .ok (.getfield 69, 3) := by decide +kernel
theorem dX9_heap_82 : decode cX9_heap 82 = .ok (.iload 5, 2) := by decide +kernel
theorem dX9_heap_84 : decode cX9_heap 84 = .ok (.iaload, 1) := by decide +kernel
theorem dX9_heap_85 : decode cX9_heap 85 = .ok (.iconst (-1), 1) := by decide +kernel
theorem dX9_heap_86 : decode cX9_heap 86 = .ok (.ixor, 1) := by decide +kernel
theorem dX9_heap_87 : decode cX9_heap 87 = .ok (.iand, 1) := by decide +kernel
theorem dX9_heap_88 : decode cX9_heap 88 = .ok (.iadd, 1) := by decide +kernel
theorem dX9_heap_89 : decode cX9_heap 89 = .ok (.iaload, 1) := by decide +kernel
theorem dX9_heap_90 : decode cX9_heap 90 = .ok (.iadd, 1) := by decide +kernel
theorem dX9_heap_91 : decode cX9_heap 91 = .ok (.aload_n 0, 1) := by decide +kernel
theorem dX9_heap_92 : decode cX9_heap 92 = .ok (.getfield 73, 3) := by decide +kernel
theorem dX9_heap_95 : decode cX9_heap 95 = .ok (.sipush 4096, 3) := by decide +kernel
theorem dX9_heap_98 : decode cX9_heap 98 = .ok (.iload 5, 2) := by decide +kernel
theorem dX9_heap_100 : decode cX9_heap 100 = .ok (.imul, 1) := by decide +kernel
theorem dX9_heap_101 : decode cX9_heap 101 = .ok (.iload_n 2, 1) := by decide +kernel
theorem dX9_heap_102 : decode cX9_heap 102 = .ok (.iadd, 1) := by decide +kernel
theorem dX9_heap_103 : decode cX9_heap 103 = .ok (.iaload, 1) := by decide +kernel
theorem dX9_heap_104 : decode cX9_heap 104 = .ok (.if_icmp .ne 7, 3) := by decide +kernel
theorem dX9_heap_107 : decode cX9_heap 107 = .ok (.iconst 1, 1) := by decide +kernel
theorem dX9_heap_108 : decode cX9_heap 108 = .ok (.goto 4, 3) := by decide +kernel
theorem dX9_heap_111 : decode cX9_heap 111 = .ok (.iconst 0, 1) := by decide +kernel
theorem dX9_heap_112 : decode cX9_heap 112 = .ok (.istore 6, 2) := by decide +kernel
theorem dX9_heap_114 : decode cX9_heap 114 = .ok (.iload 6, 2) := by decide +kernel
theorem dX9_heap_116 : decode cX9_heap 116 = .ok (.ifCond .eq 27, 3) := by decide +kernel
theorem dX9_heap_119 : decode cX9_heap 119 = .ok (.iload 4, 2) := by decide +kernel
theorem dX9_heap_121 : decode cX9_heap 121 = .ok (.iload_n 1, 1) := by decide +kernel
theorem dX9_heap_122 : decode cX9_heap 122 = .ok (.if_icmp .ne 6, 3) := by decide +kernel
theorem dX9_heap_125 : decode cX9_heap 125 = .ok (.iload 5, 2) := by decide +kernel
theorem dX9_heap_127 : decode cX9_heap 127 = .ok (.ireturn, 1) := by decide +kernel
theorem dX9_heap_128 : decode cX9_heap 128 = .ok (.iinc 4 1, 3) := by decide +kernel
theorem dX9_heap_131 : decode cX9_heap 131 = .ok (.iload_n 2, 1) := by decide +kernel
theorem dX9_heap_132 : decode cX9_heap 132 = .ok (.aload_n 0, 1) := by decide +kernel
theorem dX9_heap_133 : decode cX9_heap 133 = .ok (.getfield 69, 3) := by decide +kernel
theorem dX9_heap_136 : decode cX9_heap 136 = .ok (.iload 5, 2) := by decide +kernel
theorem dX9_heap_138 : decode cX9_heap 138 = .ok (.iaload, 1) := by decide +kernel
theorem dX9_heap_139 : decode cX9_heap 139 = .ok (.iconst (-1), 1) := by decide +kernel
theorem dX9_heap_140 : decode cX9_heap 140 = .ok (.ixor, 1) := by decide +kernel
theorem dX9_heap_141 : decode cX9_heap 141 = .ok (.iand, 1) := by decide +kernel
theorem dX9_heap_142 : decode cX9_heap 142 = .ok (.istore_n 2, 1) := by decide +kernel
theorem dX9_heap_143 : decode cX9_heap 143 = .ok (.iinc 5 1, 3) := by decide +kernel
theorem dX9_heap_146 : decode cX9_heap 146 = .ok (.goto (-101), 3) := by decide +kernel
theorem dX9_heap_149 : decode cX9_heap 149 = .ok (.iconst (-1), 1) := by decide +kernel
theorem dX9_heap_150 : decode cX9_heap 150 = .ok (.ireturn, 1) := by decide +kernel
set_option maxRecDepth 20000 in
theorem ggX9_strange_X9_findCovers : GoodIn wsX9_strange wsX9_findCovers := goodIn_sub (am_cons (List.mem_cons_of_mem _ (List.mem_append_left _ (List.mem_append_left _ (List.mem_of_getElem? (i := 5) rfl)))) (am_app (am_app (am_cons (List.mem_cons_of_mem _ (List.mem_append_left _ (List.mem_append_left _ (List.mem_of_getElem? (i := 6) rfl)))) (am_cons (List.mem_cons_of_mem _ (List.mem_append_left _ (List.mem_append_left _ (List.mem_of_getElem? (i := 7) rfl)))) (am_cons (List.mem_cons_of_mem _ (List.mem_append_left _ (List.mem_append_left _ (List.mem_of_getElem? (i := 8) rfl)))) (am_cons (List.mem_cons_of_mem _ (List.mem_append_left _ (List.mem_append_left _ (List.mem_of_getElem? (i := 9) rfl)))) (am_cons (List.mem_cons_of_mem _ (List.mem_append_left _ (List.mem_append_left _ (List.mem_of_getElem? (i := 4) rfl)))) (am_cons (List.mem_cons_of_mem _ (List.mem_append_left _ (List.mem_append_left _ (List.mem_of_getElem? (i := 10) rfl)))) (am_cons (List.mem_cons_of_mem _ (List.mem_append_left _ (List.mem_append_left _ (List.mem_of_getElem? (i := 11) rfl)))) (am_cons (List.mem_cons_of_mem _ (List.mem_append_left _ (List.mem_append_left _ (List.mem_of_getElem? (i := 12) rfl)))) (am_cons (List.mem_cons_of_mem _ (List.mem_append_left _ (List.mem_append_left _ (List.mem_of_getElem? (i := 13) rfl)))) (am_cons (List.mem_cons_of_mem _ (List.mem_append_left _ (List.mem_append_left _ (List.mem_of_getElem? (i := 14) rfl)))) (am_cons (List.mem_cons_of_mem _ (List.mem_append_left _ (List.mem_append_left _ (List.mem_of_getElem? (i := 15) rfl)))) (am_cons (List.mem_cons_of_mem _ (List.mem_append_left _ (List.mem_append_left _ (List.mem_of_getElem? (i := 16) rfl)))) (am_cons (List.mem_cons_of_mem _ (List.mem_append_left _ (List.mem_append_left _ (List.mem_of_getElem? (i := 17) rfl)))) (am_cons (List.mem_cons_of_mem _ (List.mem_append_left _ (List.mem_append_left _ (List.mem_of_getElem? (i := 18) rfl)))) (am_cons (List.mem_cons_of_mem _ (List.mem_append_left _ (List.mem_append_left _ (List.mem_of_getElem? (i := 19) rfl)))) (am_cons (List.mem_cons_of_mem _ (List.mem_append_left _ (List.mem_append_left _ (List.mem_of_getElem? (i := 20) rfl)))) (am_cons (List.mem_cons_of_mem _ (List.mem_append_left _ (List.mem_append_left _ (List.mem_of_getElem? (i := 21) rfl)))) (am_cons (List.mem_cons_of_mem _ (List.mem_append_left _ (List.mem_append_left _ (List.mem_of_getElem? (i := 22) rfl)))) (am_cons (List.mem_cons_of_mem _ (List.mem_append_left _ (List.mem_append_left _ (List.mem_of_getElem? (i := 23) rfl)))) (am_cons (List.mem_cons_of_mem _ (List.mem_append_left _ (List.mem_append_right _ (List.mem_append_left _ (List.mem_of_getElem? (i := 0) rfl))))) (am_cons (List.mem_cons_of_mem _ (List.mem_append_left _ (List.mem_append_right _ (List.mem_append_left _ (List.mem_of_getElem? (i := 1) rfl))))) (am_cons (List.mem_cons_of_mem _ (List.mem_append_left _ (List.mem_append_right _ (List.mem_append_left _ (List.mem_of_getElem? (i := 2) rfl))))) (am_cons (List.mem_cons_of_mem _ (List.mem_append_left _ (List.mem_append_right _ (List.mem_append_left _ (List.mem_of_getElem? (i := 3) rfl))))) (am_cons (List.mem_cons_of_mem _ (List.mem_append_left _ (List.mem_append_right _ (List.mem_append_left _ (List.mem_of_getElem? (i := 4) rfl))))) am_nil)))))))))))))))))))))))) (am_app (am_cons (List.mem_cons_of_mem _ (List.mem_append_left _ (List.mem_append_left _ (List.mem_of_getElem? (i := 0) rfl)))) (am_cons (List.mem_cons_of_mem _ (List.mem_append_left _ (List.mem_append_right _ (List.mem_append_left _ (List.mem_of_getElem? (i := 5) rfl))))) (am_cons (List.mem_cons_of_mem _ (List.mem_append_left _ (List.mem_append_right _ (List.mem_append_left _ (List.mem_of_getElem? (i := 6) rfl))))) (am_cons (List.mem_cons_of_mem _ (List.mem_append_left _ (List.mem_append_right _ (List.mem_append_left _ (List.mem_of_getElem? (i := 7) rfl))))) (am_cons (List.mem_cons_of_mem _ (List.mem_append_left _ (List.mem_append_right _ (List.mem_append_left _ (List.mem_of_getElem? (i := 8) rfl))))) (am_cons (List.mem_cons_of_mem _ (List.mem_append_left _ (List.mem_append_right _ (List.mem_append_left _ (List.mem_of_getElem? (i := 9) rfl))))) (am_cons (List.mem_cons_of_mem _ (List.mem_append_left _ (List.mem_append_right _ (List.mem_append_left _ (List.mem_of_getElem? (i := 10) rfl))))) (am_cons (List.mem_cons_of_mem _ (List.mem_append_left _ (List.mem_append_right _ (List.mem_append_left _ (List.mem_of_getElem? (i := 11) rfl))))) (am_cons (List.mem_cons_of_mem _ (List.mem_append_left _ (List.mem_append_right _ (List.mem_append_left _ (List.mem_of_getElem? (i := 12) rfl))))) (am_cons (List.mem_cons_of_mem _ (List.mem_append_left _ (List.mem_append_right _ (List.mem_append_left _ (List.mem_of_getElem? (i := 13) rfl))))) (am_cons (List.mem_cons_of_mem _ (List.mem_append_left _ (List.mem_append_right _ (List.mem_append_left _ (List.mem_of_getElem? (i := 14) rfl))))) (am_cons (List.mem_cons_of_mem _ (List.mem_append_left _ (List.mem_append_right _ (List.mem_append_left _ (List.mem_of_getElem? (i := 15) rfl))))) (am_cons (List.mem_cons_of_mem _ (List.mem_append_left _ (List.mem_append_right _ (List.mem_append_left _ (List.mem_of_getElem? (i := 16) rfl))))) (am_cons (List.mem_cons_of_mem _ (List.mem_append_left _ (List.mem_append_right _ (List.mem_append_left _ (List.mem_of_getElem? (i := 17) rfl))))) (am_cons (List.mem_cons_of_mem _ (List.mem_append_left _ (List.mem_append_right _ (List.mem_append_left _ (List.mem_of_getElem? (i := 18) rfl))))) (am_cons (List.mem_cons_of_mem _ (List.mem_append_left _ (List.mem_append_right _ (List.mem_append_left _ (List.mem_of_getElem? (i := 19) rfl))))) (am_cons (List.mem_cons_of_mem _ (List.mem_append_left _ (List.mem_append_right _ (List.mem_append_left _ (List.mem_of_getElem? (i := 20) rfl))))) (am_cons (List.mem_cons_of_mem _ (List.mem_append_left _ (List.mem_append_right _ (List.mem_append_left _ (List.mem_of_getElem? (i := 21) rfl))))) (am_cons (List.mem_cons_of_mem _ (List.mem_append_left _ (List.mem_append_right _ (List.mem_append_left _ (List.mem_of_getElem? (i := 22) rfl))))) (am_cons (List.mem_cons_of_mem _ (List.mem_append_left _ (List.mem_append_right _ (List.mem_append_left _ (List.mem_of_getElem? (i := 23) rfl))))) (am_cons (List.mem_cons_of_mem _ (List.mem_append_left _ (List.mem_append_right _ (List.mem_append_right _ (List.mem_of_getElem? (i := 0) rfl))))) (am_cons (List.mem_cons_of_mem _ (List.mem_append_left _ (List.mem_append_right _ (List.mem_append_right _ (List.mem_of_getElem? (i := 1) rfl))))) (am_cons (List.mem_cons_of_mem _ (List.mem_append_left _ (List.mem_append_right _ (List.mem_append_right _ (List.mem_of_getElem? (i := 2) rfl))))) (am_cons (List.mem_cons_of_mem _ (List.mem_append_left _ (List.mem_append_right _ (List.mem_append_right _ (List.mem_of_getElem? (i := 3) rfl))))) am_nil)))))))))))))))))))))))) (am_cons (List.mem_cons_of_mem _ (List.mem_append_left _ (List.mem_append_right _ (List.mem_append_right _ (List.mem_of_getElem? (i := 4) rfl))))) (am_cons (List.mem_cons_of_mem _ (List.mem_append_left _ (List.mem_append_right _ (List.mem_append_right _ (List.mem_of_getElem? (i := 5) rfl))))) (am_cons (List.mem_cons_of_mem _ (List.mem_append_left _ (List.mem_append_right _ (List.mem_append_right _ (List.mem_of_getElem? (i := 6) rfl))))) (am_cons (List.mem_cons_of_mem _ (List.mem_append_left _ (List.mem_append_right _ (List.mem_append_right _ (List.mem_of_getElem? (i := 7) rfl))))) (am_cons (List.mem_cons_of_mem _ (List.mem_append_left _ (List.mem_append_right _ (List.mem_append_right _ (List.mem_of_getElem? (i := 8) rfl))))) (am_cons (List.mem_cons_of_mem _ (List.mem_append_left _ (List.mem_append_right _ (List.mem_append_right _ (List.mem_of_getElem? (i := 9) rfl))))) (am_cons (List.mem_cons_of_mem _ (List.mem_append_left _ (List.mem_append_right _ (List.mem_append_right _ (List.mem_of_getElem? (i := 10) rfl))))) (am_cons (List.mem_cons_of_mem _ (List.mem_append_left _ (List.mem_append_right _ (List.mem_append_right _ (List.mem_of_getElem? (i := 11) rfl))))) (am_cons (List.mem_cons_of_mem _ (List.mem_append_left _ (List.mem_append_right _ (List.mem_append_right _ (List.mem_of_getElem? (i := 12) rfl))))) (am_cons (List.mem_cons_of_mem _ (List.mem_append_left _ (List.mem_append_right _ (List.mem_append_right _ (List.mem_of_getElem? (i := 13) rfl))))) (am_cons (List.mem_cons_of_mem _ (List.mem_append_left _ (List.mem_append_right _ (List.mem_append_right _ (List.mem_of_getElem? (i := 14) rfl))))) am_nil))))))))))))) (fun _ h => List.mem_cons_of_mem _ (List.mem_append_right _ (h))))) (by decide +kernel)
set_option maxRecDepth 20000 in
theorem gX9_strange_X9_findCovers : GoodIn wsX9_strange (wsV RX9 213 RX9 yX9_findCovers wsX9_findCovers) := goodIn_app (goodIn_sub (am_cons (List.mem_cons_of_mem _ (List.mem_append_left _ (List.mem_append_left _ (List.mem_of_getElem? (i := 1) rfl)))) (am_cons (List.mem_cons_of_mem _ (List.mem_append_left _ (List.mem_append_left _ (List.mem_of_getElem? (i := 2) rfl)))) (am_cons (List.mem_cons_of_mem _ (List.mem_append_left _ (List.mem_append_left _ (List.mem_of_getElem? (i := 3) rfl)))) (am_cons (List.mem_cons_of_mem _ (List.mem_append_left _ (List.mem_append_left _ (List.mem_of_getElem? (i := 4) rfl)))) am_nil)))) (by decide +kernel)) ggX9_strange_X9_findCovers
theorem dX9_strange_0 : decode cX9_strange 0 = .ok (.iconst 1, 1) := by decide +kernel
theorem dX9_strange_1 : decode cX9_strange 1 = .ok (.aload_n 0, 1) := by decide +kernel
theorem dX9_strange_2 : decode cX9_strange 2 = .ok (.getfield 200, 3) := by decide +kernel
theorem dX9_strange_5 : decode cX9_strange 5 = .ok (.ishl, 1) := by decide +kernel
theorem dX9_strange_6 : decode cX9_strange 6 = .ok (.iconst 1, 1) := by decide +kernel
theorem dX9_strange_7 : decode cX9_strange 7 = .ok (.isub, 1) := by decide +kernel
theorem dX9_strange_8 : decode cX9_strange 8 = .ok (.aload_n 0, 1) := by decide +kernel
theorem dX9_strange_9 : decode cX9_strange 9 = .ok (.invokevirtual 213, 3) := by decide +kernel
theorem dX9_strange_12 : decode cX9_strange 12 = .ok (.iconst (-1), 1) := by decide +kernel
theorem dX9_strange_13 : decode cX9_strange 13 = .ok (.ixor, 1) := by decide +kernel
theorem dX9_strange_14 : decode cX9_strange 14 = .ok (.iand, 1) := by decide +kernel
theorem dX9_strange_15 : decode cX9_strange 15 = .ok (.ireturn, 1) := by decide +kernel
set_option maxRecDepth 20000 in
theorem ggX9_laws_X9_in : GoodIn wsX9_laws wsX9_in := goodIn_sub (am_cons (List.mem_cons_of_mem _ (List.mem_append_left _ (List.mem_of_getElem? (i := 6) rfl))) (am_nil)) (by decide +kernel)
set_option maxRecDepth 20000 in
theorem gX9_laws_X9_in : GoodIn wsX9_laws (va_wsS RX9 96 yX9_in wsX9_in) := goodIn_app (goodIn_sub (am_cons (List.mem_cons_of_mem _ (List.mem_append_left _ (List.mem_of_getElem? (i := 3) rfl))) (am_cons (List.mem_cons_of_mem _ (List.mem_append_left _ (List.mem_of_getElem? (i := 4) rfl))) (am_cons (List.mem_cons_of_mem _ (List.mem_append_left _ (List.mem_of_getElem? (i := 5) rfl))) am_nil))) (by decide +kernel)) ggX9_laws_X9_in
theorem dX9_laws_0 : decode cX9_laws 0 = .ok (.iload_n 2, 1) := by decide +kernel
theorem dX9_laws_1 : decode cX9_laws 1 = .ok (.i2l, 1) := by decide +kernel
theorem dX9_laws_2 : decode cX9_laws 2 = .ok (.lconst 1, 1) := by decide +kernel
theorem dX9_laws_3 : decode cX9_laws 3 = .ok (.iload_n 1, 1) := by decide +kernel
theorem dX9_laws_4 : decode cX9_laws 4 = .ok (.i2l, 1) := by decide +kernel
theorem dX9_laws_5 : decode cX9_laws 5 = .ok (.invokestatic 96, 3) := by decide +kernel
theorem dX9_laws_8 : decode cX9_laws 8 = .ok (.ifCond .eq 27, 3) := by decide +kernel
theorem dX9_laws_11 : decode cX9_laws 11 = .ok (.iload_n 1, 1) := by decide +kernel
theorem dX9_laws_12 : decode cX9_laws 12 = .ok (.i2l, 1) := by decide +kernel
theorem dX9_laws_13 : decode cX9_laws 13 = .ok (.lconst 1, 1) := by decide +kernel
theorem dX9_laws_14 : decode cX9_laws 14 = .ok (.ldc2_w 165, 3) := by decide +kernel
theorem dX9_laws_17 : decode cX9_laws 17 = .ok (.invokestatic 96, 3) := by decide +kernel
theorem dX9_laws_20 : decode cX9_laws 20 = .ok (.ifCond .eq 15, 3) := by decide +kernel
theorem dX9_laws_23 : decode cX9_laws 23 = .ok (.iload_n 3, 1) := by decide +kernel
theorem dX9_laws_24 : decode cX9_laws 24 = .ok (.i2l, 1) := by decide +kernel
theorem dX9_laws_25 : decode cX9_laws 25 = .ok (.lconst 1, 1) := by decide +kernel
theorem dX9_laws_26 : decode cX9_laws 26 = .ok (.ldc2_w 219, 3) := by decide +kernel
theorem dX9_laws_29 : decode cX9_laws 29 = .ok (.invokestatic 96, 3) := by decide +kernel
theorem dX9_laws_32 : decode cX9_laws 32 = .ok (.ifCond .ne 5, 3) := by decide +kernel
theorem dX9_laws_35 : decode cX9_laws 35 = .ok (.iconst (-1), 1) := by decide +kernel
theorem dX9_laws_36 : decode cX9_laws 36 = .ok (.ireturn, 1) := by decide +kernel
theorem dX9_laws_37 : decode cX9_laws 37 = .ok (.aload_n 0, 1) := by decide +kernel
theorem dX9_laws_38 : decode cX9_laws 38 = .ok (.getfield 76, 3) := by decide +kernel
theorem dX9_laws_41 : decode cX9_laws 41 = .ok (.iconst 0, 1) := by decide +kernel
theorem dX9_laws_42 : decode cX9_laws 42 = .ok (.iload_n 1, 1) := by decide +kernel
theorem dX9_laws_43 : decode cX9_laws 43 = .ok (.iastore, 1) := by decide +kernel
theorem dX9_laws_44 : decode cX9_laws 44 = .ok (.aload_n 0, 1) := by decide +kernel
theorem dX9_laws_45 : decode cX9_laws 45 = .ok (.getfield 76, 3) := by decide +kernel
theorem dX9_laws_48 : decode cX9_laws 48 = .ok (.iconst 1, 1) := by decide +kernel
theorem dX9_laws_49 : decode cX9_laws 49 = .ok (.iload_n 2, 1) := by decide +kernel
theorem dX9_laws_50 : decode cX9_laws 50 = .ok (.iastore, 1) := by decide +kernel
theorem dX9_laws_51 : decode cX9_laws 51 = .ok (.aload_n 0, 1) := by decide +kernel
theorem dX9_laws_52 : decode cX9_laws 52 = .ok (.getfield 76, 3) := by decide +kernel
theorem dX9_laws_55 : decode cX9_laws 55 = .ok (.iconst 2, 1) := by decide +kernel
theorem dX9_laws_56 : decode cX9_laws 56 = .ok (.iload_n 3, 1) := by decide +kernel
theorem dX9_laws_57 : decode cX9_laws 57 = .ok (.iastore, 1) := by decide +kernel
theorem dX9_laws_58 : decode cX9_laws 58 = .ok (.iconst 1, 1) := by decide +kernel
theorem dX9_laws_59 : decode cX9_laws 59 = .ok (.ireturn, 1) := by decide +kernel
set_option maxRecDepth 20000 in
theorem ggX9_isLoad_X9_in : GoodIn wsX9_isLoad wsX9_in := goodIn_sub (am_cons (List.mem_cons_of_mem _ (List.mem_of_getElem? (i := 4) rfl)) (am_nil)) (by decide +kernel)
set_option maxRecDepth 20000 in
theorem gX9_isLoad_X9_in : GoodIn wsX9_isLoad (va_wsS RX9 96 yX9_in wsX9_in) := goodIn_app (goodIn_sub (am_cons (List.mem_cons_of_mem _ (List.mem_of_getElem? (i := 1) rfl)) (am_cons (List.mem_cons_of_mem _ (List.mem_of_getElem? (i := 2) rfl)) (am_cons (List.mem_cons_of_mem _ (List.mem_of_getElem? (i := 3) rfl)) am_nil))) (by decide +kernel)) ggX9_isLoad_X9_in
theorem dX9_isLoad_0 : decode cX9_isLoad 0 = .ok (.iload_n 0, 1) := by decide +kernel
theorem dX9_isLoad_1 : decode cX9_isLoad 1 = .ok (.i2l, 1) := by decide +kernel
theorem dX9_isLoad_2 : decode cX9_isLoad 2 = .ok (.lconst 0, 1) := by decide +kernel
theorem dX9_isLoad_3 : decode cX9_isLoad 3 = .ok (.ldc2_w 108, 3) := by decide +kernel
theorem dX9_isLoad_6 : decode cX9_isLoad 6 = .ok (.invokestatic 96, 3) := by decide +kernel
theorem dX9_isLoad_9 : decode cX9_isLoad 9 = .ok (.ireturn, 1) := by decide +kernel
theorem dX9_middle_0 : decode cX9_middle 0 = .ok (.iconst 0, 1) := by decide +kernel
theorem dX9_middle_1 : decode cX9_middle 1 = .ok (.istore_n 2, 1) := by decide +kernel
theorem dX9_middle_2 : decode cX9_middle 2 = .ok (.iload_n 2, 1) := by decide +kernel
theorem dX9_middle_3 : decode cX9_middle 3 = .ok (.iconst 5, 1) := by decide +kernel
theorem dX9_middle_4 : decode cX9_middle 4 = .ok (.if_icmp .ge 91, 3) := by decide +kernel
theorem dX9_middle_7 : decode cX9_middle 7 = .ok (.aload_n 0, 1) := by decide +kernel
theorem dX9_middle_8 : decode cX9_middle 8 = .ok (.getfield 82, 3) := by decide +kernel
theorem dX9_middle_11 : decode cX9_middle 11 = .ok (.sipush 200, 3) := by decide +kernel
theorem dX9_middle_14 : decode cX9_middle 14 = .ok (.iload_n 1, 1) := by decide +kernel
theorem dX9_middle_15 : decode cX9_middle 15 = .ok (.imul, 1) := by decide +kernel
theorem dX9_middle_16 : decode cX9_middle 16 = .ok (.iload_n 2, 1) := by decide +kernel
theorem dX9_middle_17 : decode cX9_middle 17 = .ok (.iadd, 1) := by decide +kernel
theorem dX9_middle_18 : decode cX9_middle 18 = .ok (.iaload, 1) := by decide +kernel
theorem dX9_middle_19 : decode cX9_middle 19 = .ok (.istore_n 3, 1) := by decide +kernel
theorem dX9_middle_20 : decode cX9_middle 20 = .ok (.iconst 0, 1) := by decide +kernel
theorem dX9_middle_21 : decode cX9_middle 21 = .ok (.istore 4, 2) := by decide +kernel
theorem dX9_middle_23 : decode cX9_middle 23 = .ok (.iconst 0, 1) := by decide +kernel
theorem dX9_middle_24 : decode cX9_middle 24 = .ok (.istore 5, 2) := by decide +kernel
theorem dX9_middle_26 : decode cX9_middle 26 = .ok (.iload 5, 2) := by decide +kernel
theorem dX9_middle_28 : decode cX9_middle 28 = .ok (.iconst 5, 1) := by decide +kernel
theorem dX9_middle_29 : decode cX9_middle 29 = .ok (.if_icmp .ge 52, 3) := by decide +kernel
theorem dX9_middle_32 : decode cX9_middle 32 = .ok (.aload_n 0, 1) := by decide +kernel
theorem dX9_middle_33 : decode cX9_middle 33 = .ok (.getfield 82, 3) := by decide +kernel
theorem dX9_middle_36 : decode cX9_middle 36 = .ok (.sipush 200, 3) := by decide +kernel
theorem dX9_middle_39 : decode cX9_middle 39 = .ok (.iload_n 1, 1) := by decide +kernel
theorem dX9_middle_40 : decode cX9_middle 40 = .ok (.imul, 1) := by decide +kernel
theorem dX9_middle_41 : decode cX9_middle 41 = .ok (.iload 5, 2) := by decide +kernel
theorem dX9_middle_43 : decode cX9_middle 43 = .ok (.iadd, 1) := by decide +kernel
theorem dX9_middle_44 : decode cX9_middle 44 = .ok (.iaload, 1) := by decide +kernel
theorem dX9_middle_45 : decode cX9_middle 45 = .ok (.istore 6, 2) := by decide +kernel
theorem dX9_middle_47 : decode cX9_middle 47 = .ok (.iload 4, 2) := by decide +kernel
theorem dX9_middle_49 : decode cX9_middle 49 = .ok (.iload 6, 2) := by decide +kernel
theorem dX9_middle_51 : decode cX9_middle 51 = .ok (.iload_n 3, 1) := by decide +kernel
theorem dX9_middle_52 : decode cX9_middle 52 = .ok (.if_icmp .lt 15, 3) := by decide +kernel
theorem dX9_middle_55 : decode cX9_middle 55 = .ok (.iload 6, 2) := by decide +kernel
theorem dX9_middle_57 : decode cX9_middle 57 = .ok (.iload_n 3, 1) := by decide +kernel
theorem dX9_middle_58 : decode cX9_middle 58 = .ok (.if_icmp .ne 13, 3) := by decide +kernel
theorem dX9_middle_61 : decode cX9_middle 61 = .ok (.iload 5, 2) := by decide +kernel
theorem dX9_middle_63 : decode cX9_middle 63 = .ok (.iload_n 2, 1) := by decide +kernel
theorem dX9_middle_64 : decode cX9_middle 64 = .ok (.if_icmp .ge 7, 3) := by decide +kernel
theorem dX9_middle_67 : decode cX9_middle 67 = .ok (.iconst 1, 1) := by decide +kernel
theorem dX9_middle_68 : decode cX9_middle 68 = .ok (.goto 4, 3) := by decide +kernel
theorem dX9_middle_71 : decode cX9_middle 71 = .ok (.iconst 0, 1) := by decide +kernel
theorem dX9_middle_72 : decode cX9_middle 72 = .ok (.iadd, 1) := by decide +kernel
theorem dX9_middle_73 : decode cX9_middle 73 = .ok (.istore 4, 2) := by decide +kernel
theorem dX9_middle_75 : decode cX9_middle 75 = .ok (.iinc 5 1, 3) := by decide +kernel
theorem dX9_middle_78 : decode cX9_middle 78 = .ok (.goto (-52), 3) := by decide +kernel
theorem dX9_middle_81 : decode cX9_middle 81 = .ok (.iload 4, 2) := by decide +kernel
theorem dX9_middle_83 : decode cX9_middle 83 = .ok (.iconst 2, 1) := by decide +kernel
theorem dX9_middle_84 : decode cX9_middle 84 = .ok (.if_icmp .ne 5, 3) := by decide +kernel
theorem dX9_middle_87 : decode cX9_middle 87 = .ok (.iload_n 3, 1) := by decide +kernel
theorem dX9_middle_88 : decode cX9_middle 88 = .ok (.ireturn, 1) := by decide +kernel
theorem dX9_middle_89 : decode cX9_middle 89 = .ok (.iinc 2 1, 3) := by decide +kernel
theorem dX9_middle_92 : decode cX9_middle 92 = .ok (.goto (-90), 3) := by decide +kernel
theorem dX9_middle_95 : decode cX9_middle 95 = .ok (.bipush (-4), 2) := by decide +kernel
theorem dX9_middle_97 : decode cX9_middle 97 = .ok (.ireturn, 1) := by decide +kernel
set_option maxRecDepth 20000 in
theorem ggX9_reading_X9_isLoad : GoodIn wsX9_reading wsX9_isLoad := goodIn_sub (am_cons (List.mem_cons_of_mem _ (List.mem_append_left _ (List.mem_of_getElem? (i := 9) rfl))) (am_cons (List.mem_cons_of_mem _ (List.mem_append_left _ (List.mem_of_getElem? (i := 10) rfl))) (am_cons (List.mem_cons_of_mem _ (List.mem_append_left _ (List.mem_of_getElem? (i := 11) rfl))) (am_cons (List.mem_cons_of_mem _ (List.mem_append_left _ (List.mem_of_getElem? (i := 12) rfl))) (am_cons (List.mem_cons_of_mem _ (List.mem_append_left _ (List.mem_of_getElem? (i := 8) rfl))) (am_cons (List.mem_cons_of_mem _ (List.mem_append_left _ (List.mem_of_getElem? (i := 13) rfl))) am_nil)))))) (by decide +kernel)
set_option maxRecDepth 20000 in
theorem gX9_reading_X9_isLoad : GoodIn wsX9_reading (va_wsS RX9 221 yX9_isLoad wsX9_isLoad) := goodIn_app (goodIn_sub (am_cons (List.mem_cons_of_mem _ (List.mem_append_left _ (List.mem_of_getElem? (i := 6) rfl))) (am_cons (List.mem_cons_of_mem _ (List.mem_append_left _ (List.mem_of_getElem? (i := 7) rfl))) (am_cons (List.mem_cons_of_mem _ (List.mem_append_left _ (List.mem_of_getElem? (i := 8) rfl))) am_nil))) (by decide +kernel)) ggX9_reading_X9_isLoad
set_option maxRecDepth 20000 in
theorem ggX9_reading_X9_in : GoodIn wsX9_reading wsX9_in := goodIn_sub (am_cons (List.mem_cons_of_mem _ (List.mem_append_left _ (List.mem_of_getElem? (i := 13) rfl))) (am_nil)) (by decide +kernel)
set_option maxRecDepth 20000 in
theorem gX9_reading_X9_in : GoodIn wsX9_reading (va_wsS RX9 96 yX9_in wsX9_in) := goodIn_app (goodIn_sub (am_cons (List.mem_cons_of_mem _ (List.mem_append_left _ (List.mem_of_getElem? (i := 11) rfl))) (am_cons (List.mem_cons_of_mem _ (List.mem_append_left _ (List.mem_of_getElem? (i := 12) rfl))) (am_cons (List.mem_cons_of_mem _ (List.mem_append_left _ (List.mem_of_getElem? (i := 8) rfl))) am_nil))) (by decide +kernel)) ggX9_reading_X9_in
set_option maxRecDepth 20000 in
theorem ggX9_reading_X9_middle : GoodIn wsX9_reading wsX9_middle := goodIn_sub (am_cons (List.mem_cons_of_mem _ (List.mem_append_left _ (List.mem_of_getElem? (i := 17) rfl))) (am_app (am_cons (List.mem_cons_of_mem _ (List.mem_append_left _ (List.mem_of_getElem? (i := 2) rfl))) am_nil) (fun _ h => List.mem_cons_of_mem _ (List.mem_append_right _ (h))))) (by decide +kernel)
set_option maxRecDepth 20000 in
theorem gX9_reading_X9_middle : GoodIn wsX9_reading (wsV RX9 224 RX9 yX9_middle wsX9_middle) := goodIn_app (goodIn_sub (am_cons (List.mem_cons_of_mem _ (List.mem_append_left _ (List.mem_of_getElem? (i := 14) rfl))) (am_cons (List.mem_cons_of_mem _ (List.mem_append_left _ (List.mem_of_getElem? (i := 15) rfl))) (am_cons (List.mem_cons_of_mem _ (List.mem_append_left _ (List.mem_of_getElem? (i := 16) rfl))) (am_cons (List.mem_cons_of_mem _ (List.mem_append_left _ (List.mem_of_getElem? (i := 8) rfl))) am_nil)))) (by decide +kernel)) ggX9_reading_X9_middle
theorem dX9_reading_0 : decode cX9_reading 0 = .ok (.iload_n 1, 1) := by decide +kernel
theorem dX9_reading_1 : decode cX9_reading 1 = .ok (.invokestatic 221, 3) := by decide +kernel
theorem dX9_reading_4 : decode cX9_reading 4 = .ok (.ifCond .eq 15, 3) := by decide +kernel
theorem dX9_reading_7 : decode cX9_reading 7 = .ok (.iload_n 2, 1) := by decide +kernel
theorem dX9_reading_8 : decode cX9_reading 8 = .ok (.i2l, 1) := by decide +kernel
theorem dX9_reading_9 : decode cX9_reading 9 = .ok (.lconst 0, 1) := by decide +kernel
theorem dX9_reading_10 : decode cX9_reading 10 = .ok (.ldc2_w 146, 3) := by decide +kernel
theorem dX9_reading_13 : decode cX9_reading 13 = .ok (.invokestatic 96, 3) := by decide +kernel
theorem dX9_reading_16 : decode cX9_reading 16 = .ok (.ifCond .ne 5, 3) := by decide +kernel
theorem dX9_reading_19 : decode cX9_reading 19 = .ok (.iconst (-1), 1) := by decide +kernel
theorem dX9_reading_20 : decode cX9_reading 20 = .ok (.ireturn, 1) := by decide +kernel
theorem dX9_reading_21 : decode cX9_reading 21 = .ok (.aload_n 0, 1) := by decide +kernel
theorem dX9_reading_22 : decode cX9_reading 22 = .ok (.getfield 79, 3) := by decide +kernel
theorem dX9_reading_25 : decode cX9_reading 25 = .ok (.iload_n 1, 1) := by decide +kernel
theorem dX9_reading_26 : decode cX9_reading 26 = .ok (.iaload, 1) := by decide +kernel
theorem dX9_reading_27 : decode cX9_reading 27 = .ok (.sipush 200, 3) := by decide +kernel
theorem dX9_reading_30 : decode cX9_reading 30 = .ok (.if_icmp .ne 6, 3) := by decide +kernel
theorem dX9_reading_33 : decode cX9_reading 33 = .ok (.bipush (-3), 2) := by decide +kernel
theorem dX9_reading_35 : decode cX9_reading 35 = .ok (.ireturn, 1) := by decide +kernel
theorem dX9_reading_36 : decode cX9_reading 36 = .ok (.aload_n 0, 1) := by decide +kernel
theorem dX9_reading_37 : decode cX9_reading 37 = .ok (.getfield 82, 3) := by decide +kernel
theorem dX9_reading_40 : decode cX9_reading 40 = .ok (.sipush 200, 3) := by decide +kernel
theorem dX9_reading_43 : decode cX9_reading 43 = .ok (.iload_n 1, 1) := by decide +kernel
theorem dX9_reading_44 : decode cX9_reading 44 = .ok (.imul, 1) := by decide +kernel
theorem dX9_reading_45 : decode cX9_reading 45 = .ok (.aload_n 0, 1) := by decide +kernel
theorem dX9_reading_46 : decode cX9_reading 46 = .ok (.getfield 79, 3) := by decide +kernel
theorem dX9_reading_49 : decode cX9_reading 49 = .ok (.iload_n 1, 1) := by decide +kernel
theorem dX9_reading_50 : decode cX9_reading 50 = .ok (.iaload, 1) := by decide +kernel
theorem dX9_reading_51 : decode cX9_reading 51 = .ok (.iadd, 1) := by decide +kernel
theorem dX9_reading_52 : decode cX9_reading 52 = .ok (.iload_n 2, 1) := by decide +kernel
theorem dX9_reading_53 : decode cX9_reading 53 = .ok (.iastore, 1) := by decide +kernel
theorem dX9_reading_54 : decode cX9_reading 54 = .ok (.aload_n 0, 1) := by decide +kernel
theorem dX9_reading_55 : decode cX9_reading 55 = .ok (.getfield 79, 3) := by decide +kernel
theorem dX9_reading_58 : decode cX9_reading 58 = .ok (.iload_n 1, 1) := by decide +kernel
theorem dX9_reading_59 : decode cX9_reading 59 = .ok (.dup2, 1) := by decide +kernel
theorem dX9_reading_60 : decode cX9_reading 60 = .ok (.iaload, 1) := by decide +kernel
theorem dX9_reading_61 : decode cX9_reading 61 = .ok (.iconst 1, 1) := by decide +kernel
theorem dX9_reading_62 : decode cX9_reading 62 = .ok (.iadd, 1) := by decide +kernel
theorem dX9_reading_63 : decode cX9_reading 63 = .ok (.iastore, 1) := by decide +kernel
theorem dX9_reading_64 : decode cX9_reading 64 = .ok (.aload_n 0, 1) := by decide +kernel
theorem dX9_reading_65 : decode cX9_reading 65 = .ok (.getfield 79, 3) := by decide +kernel
theorem dX9_reading_68 : decode cX9_reading 68 = .ok (.iload_n 1, 1) := by decide +kernel
theorem dX9_reading_69 : decode cX9_reading 69 = .ok (.iaload, 1) := by decide +kernel
theorem dX9_reading_70 : decode cX9_reading 70 = .ok (.istore_n 3, 1) := by decide +kernel
theorem dX9_reading_71 : decode cX9_reading 71 = .ok (.iload_n 3, 1) := by decide +kernel
theorem dX9_reading_72 : decode cX9_reading 72 = .ok (.iconst 5, 1) := by decide +kernel
theorem dX9_reading_73 : decode cX9_reading 73 = .ok (.if_icmp .le 141, 3) := by decide +kernel
theorem dX9_reading_76 : decode cX9_reading 76 = .ok (.aload_n 0, 1) := by decide +kernel
theorem dX9_reading_77 : decode cX9_reading 77 = .ok (.iload_n 1, 1) := by decide +kernel
theorem dX9_reading_78 : decode cX9_reading 78 = .ok (.invokevirtual 224, 3) := by decide +kernel
theorem dX9_reading_81 : decode cX9_reading 81 = .ok (.i2l, 1) := by decide +kernel
theorem dX9_reading_82 : decode cX9_reading 82 = .ok (.lstore 4, 2) := by decide +kernel
theorem dX9_reading_84 : decode cX9_reading 84 = .ok (.iload_n 3, 1) := by decide +kernel
theorem dX9_reading_85 : decode cX9_reading 85 = .ok (.iconst 5, 1) := by decide +kernel
theorem dX9_reading_86 : decode cX9_reading 86 = .ok (.isub, 1) := by decide +kernel
theorem dX9_reading_87 : decode cX9_reading 87 = .ok (.aload_n 0, 1) := by decide +kernel
theorem dX9_reading_88 : decode cX9_reading 88 = .ok (.getfield 76, 3) := by decide +kernel
theorem dX9_reading_91 : decode cX9_reading 91 = .ok (.iconst 2, 1) := by decide +kernel
theorem dX9_reading_92 : decode cX9_reading 92 = .ok (.iaload, 1) := by decide +kernel
theorem dX9_reading_93 : decode cX9_reading 93 = .ok (.if_icmp .lt 7, 3) := by decide +kernel
theorem dX9_reading_96 : decode cX9_reading 96 = .ok (.iconst 1, 1) := by decide +kernel
theorem dX9_reading_97 : decode cX9_reading 97 = .ok (.goto 4, 3) := by decide +kernel
theorem dX9_reading_100 : decode cX9_reading 100 = .ok (.iconst 0, 1) := by decide +kernel
theorem dX9_reading_101 : decode cX9_reading 101 = .ok (.istore 6, 2) := by decide +kernel
theorem dX9_reading_103 : decode cX9_reading 103 = .ok (.iconst 1, 1) := by decide +kernel
theorem dX9_reading_104 : decode cX9_reading 104 = .ok (.istore 7, 2) := by decide +kernel
theorem dX9_reading_106 : decode cX9_reading 106 = .ok (.iload 7, 2) := by decide +kernel
theorem dX9_reading_108 : decode cX9_reading 108 = .ok (.aload_n 0, 1) := by decide +kernel
theorem dX9_reading_109 : decode cX9_reading 109 = .ok (.getfield 76, 3) := by decide +kernel
theorem dX9_reading_112 : decode cX9_reading 112 = .ok (.iconst 2, 1) := by decide +kernel
theorem dX9_reading_113 : decode cX9_reading 113 = .ok (.iaload, 1) := by decide +kernel
theorem dX9_reading_114 : decode cX9_reading 114 = .ok (.if_icmp .gt 55, 3) := by decide +kernel
theorem dX9_reading_117 : decode cX9_reading 117 = .ok (.iload 6, 2) := by decide +kernel
theorem dX9_reading_119 : decode cX9_reading 119 = .ok (.ifCond .eq 50, 3) := by decide +kernel
theorem dX9_reading_122 : decode cX9_reading 122 = .ok (.ldc2_w 112, 3) := by decide +kernel
theorem dX9_reading_125 : decode cX9_reading 125 = .ok (.aload_n 0, 1) := by decide +kernel
theorem dX9_reading_126 : decode cX9_reading 126 = .ok (.getfield 82, 3) := by decide +kernel
theorem dX9_reading_129 : decode cX9_reading 129 = .ok (.sipush 200, 3) := by decide +kernel
theorem dX9_reading_132 : decode cX9_reading 132 = .ok (.iload_n 1, 1) := by decide +kernel
theorem dX9_reading_133 : decode cX9_reading 133 = .ok (.imul, 1) := by decide +kernel
theorem dX9_reading_134 : decode cX9_reading 134 = .ok (.iload_n 3, 1) := by decide +kernel
theorem dX9_reading_135 : decode cX9_reading 135 = .ok (.iadd, 1) := by decide +kernel
theorem dX9_reading_136 : decode cX9_reading 136 = .ok (.iload 7, 2) := by decide +kernel
theorem dX9_reading_138 : decode cX9_reading 138 = .ok (.isub, 1) := by decide +kernel
theorem dX9_reading_139 : decode cX9_reading 139 = .ok (.iaload, 1) := by decide +kernel
theorem dX9_reading_140 : decode cX9_reading 140 = .ok (.i2l, 1) := by decide +kernel
theorem dX9_reading_141 : decode cX9_reading 141 = .ok (.lmul, 1) := by decide +kernel
theorem dX9_reading_142 : decode cX9_reading 142 = .ok (.aload_n 0, 1) := by decide +kernel
theorem dX9_reading_143 : decode cX9_reading 143 = .ok (.getfield 76, 3) := by decide +kernel
theorem dX9_reading_146 : decode cX9_reading 146 = .ok (.iconst 0, 1) := by decide +kernel
theorem dX9_reading_147 : decode cX9_reading 147 = .ok (.iaload, 1) := by decide +kernel
theorem dX9_reading_148 : decode cX9_reading 148 = .ok (.i2l, 1) := by decide +kernel
theorem dX9_reading_149 : decode cX9_reading 149 = .ok (.lload 4, 2) := by decide +kernel
theorem dX9_reading_151 : decode cX9_reading 151 = .ok (.lmul, 1) := by decide +kernel
theorem dX9_reading_152 : decode cX9_reading 152 = .ok (.lcmp, 1) := by decide +kernel
theorem dX9_reading_153 : decode cX9_reading 153 = .ok (.ifCond .le 7, 3) := by decide +kernel
theorem dX9_reading_156 : decode cX9_reading 156 = .ok (.iconst 1, 1) := by decide +kernel
theorem dX9_reading_157 : decode cX9_reading 157 = .ok (.goto 4, 3) := by decide +kernel
theorem dX9_reading_160 : decode cX9_reading 160 = .ok (.iconst 0, 1) := by decide +kernel
theorem dX9_reading_161 : decode cX9_reading 161 = .ok (.istore 6, 2) := by decide +kernel
theorem dX9_reading_163 : decode cX9_reading 163 = .ok (.iinc 7 1, 3) := by decide +kernel
theorem dX9_reading_166 : decode cX9_reading 166 = .ok (.goto (-60), 3) := by decide +kernel
theorem dX9_reading_169 : decode cX9_reading 169 = .ok (.aload_n 0, 1) := by decide +kernel
theorem dX9_reading_170 : decode cX9_reading 170 = .ok (.getfield 85, 3) := by decide +kernel
theorem dX9_reading_173 : decode cX9_reading 173 = .ok (.iload_n 1, 1) := by decide +kernel
theorem dX9_reading_174 : decode cX9_reading 174 = .ok (.iload 6, 2) := by decide +kernel
theorem dX9_reading_176 : decode cX9_reading 176 = .ok (.ifCond .ne 32, 3) := by decide +kernel
theorem dX9_reading_179 : decode cX9_reading 179 = .ok (.aload_n 0, 1) := by decide +kernel
theorem dX9_reading_180 : decode cX9_reading 180 = .ok (.getfield 85, 3) := by decide +kernel
theorem dX9_reading_183 : decode cX9_reading 183 = .ok (.iload_n 1, 1) := by decide +kernel
theorem dX9_reading_184 : decode cX9_reading 184 = .ok (.baload, 1) := by decide +kernel
theorem dX9_reading_185 : decode cX9_reading 185 = .ok (.ifCond .eq 27, 3) := by decide +kernel
theorem dX9_reading_188 : decode cX9_reading 188 = .ok (.ldc2_w 112, 3) := by decide +kernel
theorem dX9_reading_191 : decode cX9_reading 191 = .ok (.iload_n 2, 1) := by decide +kernel
theorem dX9_reading_192 : decode cX9_reading 192 = .ok (.i2l, 1) := by decide +kernel
theorem dX9_reading_193 : decode cX9_reading 193 = .ok (.lmul, 1) := by decide +kernel
theorem dX9_reading_194 : decode cX9_reading 194 = .ok (.aload_n 0, 1) := by decide +kernel
theorem dX9_reading_195 : decode cX9_reading 195 = .ok (.getfield 76, 3) := by decide +kernel
theorem dX9_reading_198 : decode cX9_reading 198 = .ok (.iconst 1, 1) := by decide +kernel
theorem dX9_reading_199 : decode cX9_reading 199 = .ok (.iaload, 1) := by decide +kernel
theorem dX9_reading_200 : decode cX9_reading 200 = .ok (.i2l, 1) := by decide +kernel
theorem dX9_reading_201 : decode cX9_reading 201 = .ok (.lload 4, 2) := by decide +kernel
theorem dX9_reading_203 : decode cX9_reading 203 = .ok (.lmul, 1) := by decide +kernel
theorem dX9_reading_204 : decode cX9_reading 204 = .ok (.lcmp, 1) := by decide +kernel
theorem dX9_reading_205 : decode cX9_reading 205 = .ok (.ifCond .lt 7, 3) := by decide +kernel
theorem dX9_reading_208 : decode cX9_reading 208 = .ok (.iconst 1, 1) := by decide +kernel
theorem dX9_reading_209 : decode cX9_reading 209 = .ok (.goto 4, 3) := by decide +kernel
theorem dX9_reading_212 : decode cX9_reading 212 = .ok (.iconst 0, 1) := by decide +kernel
theorem dX9_reading_213 : decode cX9_reading 213 = .ok (.bastore, 1) := by decide +kernel
theorem dX9_reading_214 : decode cX9_reading 214 = .ok (.iload_n 3, 1) := by decide +kernel
theorem dX9_reading_215 : decode cX9_reading 215 = .ok (.ireturn, 1) := by decide +kernel
set_option maxRecDepth 20000 in
theorem ggX9_baseline_X9_isLoad : GoodIn wsX9_baseline wsX9_isLoad := goodIn_sub (am_cons (List.mem_cons_of_mem _ (List.mem_append_left _ (List.mem_of_getElem? (i := 4) rfl))) (am_cons (List.mem_cons_of_mem _ (List.mem_append_left _ (List.mem_of_getElem? (i := 5) rfl))) (am_cons (List.mem_cons_of_mem _ (List.mem_append_left _ (List.mem_of_getElem? (i := 6) rfl))) (am_cons (List.mem_cons_of_mem _ (List.mem_append_left _ (List.mem_of_getElem? (i := 7) rfl))) (am_cons (List.mem_cons_of_mem _ (List.mem_append_left _ (List.mem_of_getElem? (i := 3) rfl))) (am_cons (List.mem_cons_of_mem _ (List.mem_append_left _ (List.mem_of_getElem? (i := 8) rfl))) am_nil)))))) (by decide +kernel)
set_option maxRecDepth 20000 in
theorem gX9_baseline_X9_isLoad : GoodIn wsX9_baseline (va_wsS RX9 221 yX9_isLoad wsX9_isLoad) := goodIn_app (goodIn_sub (am_cons (List.mem_cons_of_mem _ (List.mem_append_left _ (List.mem_of_getElem? (i := 1) rfl))) (am_cons (List.mem_cons_of_mem _ (List.mem_append_left _ (List.mem_of_getElem? (i := 2) rfl))) (am_cons (List.mem_cons_of_mem _ (List.mem_append_left _ (List.mem_of_getElem? (i := 3) rfl))) am_nil))) (by decide +kernel)) ggX9_baseline_X9_isLoad
set_option maxRecDepth 20000 in
theorem ggX9_baseline_X9_middle : GoodIn wsX9_baseline wsX9_middle := goodIn_sub (am_cons (List.mem_cons_of_mem _ (List.mem_append_left _ (List.mem_of_getElem? (i := 12) rfl))) (am_app (am_cons (List.mem_cons_of_mem _ (List.mem_append_left _ (List.mem_of_getElem? (i := 13) rfl))) am_nil) (fun _ h => List.mem_cons_of_mem _ (List.mem_append_right _ (h))))) (by decide +kernel)
set_option maxRecDepth 20000 in
theorem gX9_baseline_X9_middle : GoodIn wsX9_baseline (wsV RX9 224 RX9 yX9_middle wsX9_middle) := goodIn_app (goodIn_sub (am_cons (List.mem_cons_of_mem _ (List.mem_append_left _ (List.mem_of_getElem? (i := 9) rfl))) (am_cons (List.mem_cons_of_mem _ (List.mem_append_left _ (List.mem_of_getElem? (i := 10) rfl))) (am_cons (List.mem_cons_of_mem _ (List.mem_append_left _ (List.mem_of_getElem? (i := 11) rfl))) (am_cons (List.mem_cons_of_mem _ (List.mem_append_left _ (List.mem_of_getElem? (i := 3) rfl))) am_nil)))) (by decide +kernel)) ggX9_baseline_X9_middle
theorem dX9_baseline_0 : decode cX9_baseline 0 = .ok (.iload_n 1, 1) := by decide +kernel
theorem dX9_baseline_1 : decode cX9_baseline 1 = .ok (.invokestatic 221, 3) := by decide +kernel
theorem dX9_baseline_4 : decode cX9_baseline 4 = .ok (.ifCond .ne 7, 3) := by decide +kernel
theorem dX9_baseline_7 : decode cX9_baseline 7 = .ok (.iconst (-1), 1) := by decide +kernel
theorem dX9_baseline_8 : decode cX9_baseline 8 = .ok (.goto 23, 3) := by decide +kernel
theorem dX9_baseline_11 : decode cX9_baseline 11 = .ok (.aload_n 0, 1) := by decide +kernel
theorem dX9_baseline_12 : decode cX9_baseline 12 = .ok (.getfield 79, 3) := by decide +kernel
theorem dX9_baseline_15 : decode cX9_baseline 15 = .ok (.iload_n 1, 1) := by decide +kernel
theorem dX9_baseline_16 : decode cX9_baseline 16 = .ok (.iaload, 1) := by decide +kernel
theorem dX9_baseline_17 : decode cX9_baseline 17 = .ok (.iconst 5, 1) := by decide +kernel
theorem dX9_baseline_18 : decode cX9_baseline 18 = .ok (.if_icmp .ge 8, 3) := by decide +kernel
theorem dX9_baseline_21 : decode cX9_baseline 21 = .ok (.bipush (-4), 2) := by decide +kernel
theorem dX9_baseline_23 : decode cX9_baseline 23 = .ok (.goto 8, 3) := by decide +kernel
theorem dX9_baseline_26 : decode cX9_baseline 26 = .ok (.aload_n 0, 1) := by decide +kernel
theorem dX9_baseline_27 : decode cX9_baseline 27 = .ok (.iload_n 1, 1) := by decide +kernel
theorem dX9_baseline_28 : decode cX9_baseline 28 = .ok (.invokevirtual 224, 3) := by decide +kernel
theorem dX9_baseline_31 : decode cX9_baseline 31 = .ok (.ireturn, 1) := by decide +kernel
set_option maxRecDepth 20000 in
theorem ggX9_warned_X9_isLoad : GoodIn wsX9_warned wsX9_isLoad := goodIn_sub (am_cons (List.mem_cons_of_mem _ (List.mem_append_left _ (List.mem_of_getElem? (i := 4) rfl))) (am_cons (List.mem_cons_of_mem _ (List.mem_append_left _ (List.mem_of_getElem? (i := 5) rfl))) (am_cons (List.mem_cons_of_mem _ (List.mem_append_left _ (List.mem_of_getElem? (i := 6) rfl))) (am_cons (List.mem_cons_of_mem _ (List.mem_append_left _ (List.mem_of_getElem? (i := 7) rfl))) (am_cons (List.mem_cons_of_mem _ (List.mem_append_left _ (List.mem_of_getElem? (i := 3) rfl))) (am_cons (List.mem_cons_of_mem _ (List.mem_append_left _ (List.mem_of_getElem? (i := 8) rfl))) am_nil)))))) (by decide +kernel)
set_option maxRecDepth 20000 in
theorem gX9_warned_X9_isLoad : GoodIn wsX9_warned (va_wsS RX9 221 yX9_isLoad wsX9_isLoad) := goodIn_app (goodIn_sub (am_cons (List.mem_cons_of_mem _ (List.mem_append_left _ (List.mem_of_getElem? (i := 1) rfl))) (am_cons (List.mem_cons_of_mem _ (List.mem_append_left _ (List.mem_of_getElem? (i := 2) rfl))) (am_cons (List.mem_cons_of_mem _ (List.mem_append_left _ (List.mem_of_getElem? (i := 3) rfl))) am_nil))) (by decide +kernel)) ggX9_warned_X9_isLoad
theorem dX9_warned_0 : decode cX9_warned 0 = .ok (.iload_n 1, 1) := by decide +kernel
theorem dX9_warned_1 : decode cX9_warned 1 = .ok (.invokestatic 221, 3) := by decide +kernel
theorem dX9_warned_4 : decode cX9_warned 4 = .ok (.ifCond .ne 7, 3) := by decide +kernel
theorem dX9_warned_7 : decode cX9_warned 7 = .ok (.iconst (-1), 1) := by decide +kernel
theorem dX9_warned_8 : decode cX9_warned 8 = .ok (.goto 17, 3) := by decide +kernel
theorem dX9_warned_11 : decode cX9_warned 11 = .ok (.aload_n 0, 1) := by decide +kernel
theorem dX9_warned_12 : decode cX9_warned 12 = .ok (.getfield 85, 3) := by decide +kernel
theorem dX9_warned_15 : decode cX9_warned 15 = .ok (.iload_n 1, 1) := by decide +kernel
theorem dX9_warned_16 : decode cX9_warned 16 = .ok (.baload, 1) := by decide +kernel
theorem dX9_warned_17 : decode cX9_warned 17 = .ok (.ifCond .eq 7, 3) := by decide +kernel
theorem dX9_warned_20 : decode cX9_warned 20 = .ok (.iconst 1, 1) := by decide +kernel
theorem dX9_warned_21 : decode cX9_warned 21 = .ok (.goto 4, 3) := by decide +kernel
theorem dX9_warned_24 : decode cX9_warned 24 = .ok (.iconst 0, 1) := by decide +kernel
theorem dX9_warned_25 : decode cX9_warned 25 = .ok (.ireturn, 1) := by decide +kernel
theorem dX9_repair_0 : decode cX9_repair 0 = .ok (.iconst 0, 1) := by decide +kernel
theorem dX9_repair_1 : decode cX9_repair 1 = .ok (.istore_n 1, 1) := by decide +kernel
theorem dX9_repair_2 : decode cX9_repair 2 = .ok (.iconst 0, 1) := by decide +kernel
theorem dX9_repair_3 : decode cX9_repair 3 = .ok (.istore_n 2, 1) := by decide +kernel
theorem dX9_repair_4 : decode cX9_repair 4 = .ok (.iload_n 2, 1) := by decide +kernel
theorem dX9_repair_5 : decode cX9_repair 5 = .ok (.iconst 4, 1) := by decide +kernel
theorem dX9_repair_6 : decode cX9_repair 6 = .ok (.if_icmp .ge 40, 3) := by decide +kernel
theorem dX9_repair_9 : decode cX9_repair 9 = .ok (.iload_n 1, 1) := by decide +kernel
theorem dX9_repair_10 : decode cX9_repair 10 = .ok (.aload_n 0, 1) := by decide +kernel
theorem dX9_repair_11 : decode cX9_repair 11 = .ok (.getfield 85, 3) := by decide +kernel
theorem dX9_repair_14 : decode cX9_repair 14 = .ok (.iload_n 2, 1) := by decide +kernel
theorem dX9_repair_15 : decode cX9_repair 15 = .ok (.baload, 1) := by decide +kernel
theorem dX9_repair_16 : decode cX9_repair 16 = .ok (.ifCond .eq 7, 3) := by decide +kernel
theorem dX9_repair_19 : decode cX9_repair 19 = .ok (.iconst 1, 1) := by decide +kernel
theorem dX9_repair_20 : decode cX9_repair 20 = .ok (.goto 4, 3) := by decide +kernel
theorem dX9_repair_23 : decode cX9_repair 23 = .ok (.iconst 0, 1) := by decide +kernel
theorem dX9_repair_24 : decode cX9_repair 24 = .ok (.iadd, 1) := by decide +kernel
theorem dX9_repair_25 : decode cX9_repair 25 = .ok (.istore_n 1, 1) := by decide +kernel
theorem dX9_repair_26 : decode cX9_repair 26 = .ok (.aload_n 0, 1) := by decide +kernel
theorem dX9_repair_27 : decode cX9_repair 27 = .ok (.getfield 85, 3) := by decide +kernel
theorem dX9_repair_30 : decode cX9_repair 30 = .ok (.iload_n 2, 1) := by decide +kernel
theorem dX9_repair_31 : decode cX9_repair 31 = .ok (.iconst 0, 1) := by decide +kernel
theorem dX9_repair_32 : decode cX9_repair 32 = .ok (.bastore, 1) := by decide +kernel
theorem dX9_repair_33 : decode cX9_repair 33 = .ok (.aload_n 0, 1) := by decide +kernel
theorem dX9_repair_34 : decode cX9_repair 34 = .ok (.getfield 79, 3) := by decide +kernel
theorem dX9_repair_37 : decode cX9_repair 37 = .ok (.iload_n 2, 1) := by decide +kernel
theorem dX9_repair_38 : decode cX9_repair 38 = .ok (.iconst 0, 1) := by decide +kernel
theorem dX9_repair_39 : decode cX9_repair 39 = .ok (.iastore, 1) := by decide +kernel
theorem dX9_repair_40 : decode cX9_repair 40 = .ok (.iinc 2 1, 3) := by decide +kernel
theorem dX9_repair_43 : decode cX9_repair 43 = .ok (.goto (-39), 3) := by decide +kernel
theorem dX9_repair_46 : decode cX9_repair 46 = .ok (.iload_n 1, 1) := by decide +kernel
theorem dX9_repair_47 : decode cX9_repair 47 = .ok (.ireturn, 1) := by decide +kernel
theorem dJ9_floorDiv_7cf53_0 : decode cJ9_floorDiv_7cf53 0 = .ok (.iload_n 0, 1) := by decide +kernel
theorem dJ9_floorDiv_7cf53_1 : decode cJ9_floorDiv_7cf53 1 = .ok (.iload_n 1, 1) := by decide +kernel
theorem dJ9_floorDiv_7cf53_2 : decode cJ9_floorDiv_7cf53 2 = .ok (.idiv, 1) := by decide +kernel
theorem dJ9_floorDiv_7cf53_3 : decode cJ9_floorDiv_7cf53 3 = .ok (.istore_n 2, 1) := by decide +kernel
theorem dJ9_floorDiv_7cf53_4 : decode cJ9_floorDiv_7cf53 4 = .ok (.iload_n 0, 1) := by decide +kernel
theorem dJ9_floorDiv_7cf53_5 : decode cJ9_floorDiv_7cf53 5 = .ok (.iload_n 1, 1) := by decide +kernel
theorem dJ9_floorDiv_7cf53_6 : decode cJ9_floorDiv_7cf53 6 = .ok (.ixor, 1) := by decide +kernel
theorem dJ9_floorDiv_7cf53_7 : decode cJ9_floorDiv_7cf53 7 = .ok (.ifCond .ge 14, 3) := by decide +kernel
theorem dJ9_floorDiv_7cf53_10 : decode cJ9_floorDiv_7cf53 10 = .ok (.iload_n 2, 1) := by decide +kernel
theorem dJ9_floorDiv_7cf53_11 : decode cJ9_floorDiv_7cf53 11 = .ok (.iload_n 1, 1) := by decide +kernel
theorem dJ9_floorDiv_7cf53_12 : decode cJ9_floorDiv_7cf53 12 = .ok (.imul, 1) := by decide +kernel
theorem dJ9_floorDiv_7cf53_13 : decode cJ9_floorDiv_7cf53 13 = .ok (.iload_n 0, 1) := by decide +kernel
theorem dJ9_floorDiv_7cf53_14 : decode cJ9_floorDiv_7cf53 14 = .ok (.if_icmp .eq 7, 3) := by decide +kernel
theorem dJ9_floorDiv_7cf53_17 : decode cJ9_floorDiv_7cf53 17 = .ok (.iload_n 2, 1) := by decide +kernel
theorem dJ9_floorDiv_7cf53_18 : decode cJ9_floorDiv_7cf53 18 = .ok (.iconst 1, 1) := by decide +kernel
theorem dJ9_floorDiv_7cf53_19 : decode cJ9_floorDiv_7cf53 19 = .ok (.isub, 1) := by decide +kernel
theorem dJ9_floorDiv_7cf53_20 : decode cJ9_floorDiv_7cf53 20 = .ok (.ireturn, 1) := by decide +kernel
theorem dJ9_floorDiv_7cf53_21 : decode cJ9_floorDiv_7cf53 21 = .ok (.iload_n 2, 1) := by decide +kernel
theorem dJ9_floorDiv_7cf53_22 : decode cJ9_floorDiv_7cf53 22 = .ok (.ireturn, 1) := by decide +kernel
theorem dJ9_floorMod_7cf53_0 : decode cJ9_floorMod_7cf53 0 = .ok (.iload_n 0, 1) := by decide +kernel
theorem dJ9_floorMod_7cf53_1 : decode cJ9_floorMod_7cf53 1 = .ok (.iload_n 1, 1) := by decide +kernel
theorem dJ9_floorMod_7cf53_2 : decode cJ9_floorMod_7cf53 2 = .ok (.irem, 1) := by decide +kernel
theorem dJ9_floorMod_7cf53_3 : decode cJ9_floorMod_7cf53 3 = .ok (.istore_n 2, 1) := by decide +kernel
theorem dJ9_floorMod_7cf53_4 : decode cJ9_floorMod_7cf53 4 = .ok (.iload_n 0, 1) := by decide +kernel
theorem dJ9_floorMod_7cf53_5 : decode cJ9_floorMod_7cf53 5 = .ok (.iload_n 1, 1) := by decide +kernel
theorem dJ9_floorMod_7cf53_6 : decode cJ9_floorMod_7cf53 6 = .ok (.ixor, 1) := by decide +kernel
theorem dJ9_floorMod_7cf53_7 : decode cJ9_floorMod_7cf53 7 = .ok (.ifCond .ge 11, 3) := by decide +kernel
theorem dJ9_floorMod_7cf53_10 : decode cJ9_floorMod_7cf53 10 = .ok (.iload_n 2, 1) := by decide +kernel
theorem dJ9_floorMod_7cf53_11 : decode cJ9_floorMod_7cf53 11 = .ok (.ifCond .eq 7, 3) := by decide +kernel
theorem dJ9_floorMod_7cf53_14 : decode cJ9_floorMod_7cf53 14 = .ok (.iload_n 2, 1) := by decide +kernel
theorem dJ9_floorMod_7cf53_15 : decode cJ9_floorMod_7cf53 15 = .ok (.iload_n 1, 1) := by decide +kernel
theorem dJ9_floorMod_7cf53_16 : decode cJ9_floorMod_7cf53 16 = .ok (.iadd, 1) := by decide +kernel
theorem dJ9_floorMod_7cf53_17 : decode cJ9_floorMod_7cf53 17 = .ok (.ireturn, 1) := by decide +kernel
theorem dJ9_floorMod_7cf53_18 : decode cJ9_floorMod_7cf53 18 = .ok (.iload_n 2, 1) := by decide +kernel
theorem dJ9_floorMod_7cf53_19 : decode cJ9_floorMod_7cf53 19 = .ok (.ireturn, 1) := by decide +kernel
theorem dJ9_abs_067f4_0 : decode cJ9_abs_067f4 0 = .ok (.lload_n 0, 1) := by decide +kernel
theorem dJ9_abs_067f4_1 : decode cJ9_abs_067f4 1 = .ok (.lconst 0, 1) := by decide +kernel
theorem dJ9_abs_067f4_2 : decode cJ9_abs_067f4 2 = .ok (.lcmp, 1) := by decide +kernel
theorem dJ9_abs_067f4_3 : decode cJ9_abs_067f4 3 = .ok (.ifCond .ge 8, 3) := by decide +kernel
theorem dJ9_abs_067f4_6 : decode cJ9_abs_067f4 6 = .ok (.lload_n 0, 1) := by decide +kernel
theorem dJ9_abs_067f4_7 : decode cJ9_abs_067f4 7 = .ok (.lneg, 1) := by decide +kernel
theorem dJ9_abs_067f4_8 : decode cJ9_abs_067f4 8 = .ok (.goto 4, 3) := by decide +kernel
theorem dJ9_abs_067f4_11 : decode cJ9_abs_067f4 11 = .ok (.lload_n 0, 1) := by decide +kernel
theorem dJ9_abs_067f4_12 : decode cJ9_abs_067f4 12 = .ok (.lreturn, 1) := by decide +kernel
theorem dJ9_max_7cf53_0 : decode cJ9_max_7cf53 0 = .ok (.iload_n 0, 1) := by decide +kernel
theorem dJ9_max_7cf53_1 : decode cJ9_max_7cf53 1 = .ok (.iload_n 1, 1) := by decide +kernel
theorem dJ9_max_7cf53_2 : decode cJ9_max_7cf53 2 = .ok (.if_icmp .lt 7, 3) := by decide +kernel
theorem dJ9_max_7cf53_5 : decode cJ9_max_7cf53 5 = .ok (.iload_n 0, 1) := by decide +kernel
theorem dJ9_max_7cf53_6 : decode cJ9_max_7cf53 6 = .ok (.goto 4, 3) := by decide +kernel
theorem dJ9_max_7cf53_9 : decode cJ9_max_7cf53 9 = .ok (.iload_n 1, 1) := by decide +kernel
theorem dJ9_max_7cf53_10 : decode cJ9_max_7cf53 10 = .ok (.ireturn, 1) := by decide +kernel
theorem dJ9_max_f86c9_0 : decode cJ9_max_f86c9 0 = .ok (.lload_n 0, 1) := by decide +kernel
theorem dJ9_max_f86c9_1 : decode cJ9_max_f86c9 1 = .ok (.lload_n 2, 1) := by decide +kernel
theorem dJ9_max_f86c9_2 : decode cJ9_max_f86c9 2 = .ok (.lcmp, 1) := by decide +kernel
theorem dJ9_max_f86c9_3 : decode cJ9_max_f86c9 3 = .ok (.ifCond .lt 7, 3) := by decide +kernel
theorem dJ9_max_f86c9_6 : decode cJ9_max_f86c9 6 = .ok (.lload_n 0, 1) := by decide +kernel
theorem dJ9_max_f86c9_7 : decode cJ9_max_f86c9 7 = .ok (.goto 4, 3) := by decide +kernel
theorem dJ9_max_f86c9_10 : decode cJ9_max_f86c9 10 = .ok (.lload_n 2, 1) := by decide +kernel
theorem dJ9_max_f86c9_11 : decode cJ9_max_f86c9 11 = .ok (.lreturn, 1) := by decide +kernel
theorem dJ9_min_7cf53_0 : decode cJ9_min_7cf53 0 = .ok (.iload_n 0, 1) := by decide +kernel
theorem dJ9_min_7cf53_1 : decode cJ9_min_7cf53 1 = .ok (.iload_n 1, 1) := by decide +kernel
theorem dJ9_min_7cf53_2 : decode cJ9_min_7cf53 2 = .ok (.if_icmp .gt 7, 3) := by decide +kernel
theorem dJ9_min_7cf53_5 : decode cJ9_min_7cf53 5 = .ok (.iload_n 0, 1) := by decide +kernel
theorem dJ9_min_7cf53_6 : decode cJ9_min_7cf53 6 = .ok (.goto 4, 3) := by decide +kernel
theorem dJ9_min_7cf53_9 : decode cJ9_min_7cf53 9 = .ok (.iload_n 1, 1) := by decide +kernel
theorem dJ9_min_7cf53_10 : decode cJ9_min_7cf53 10 = .ok (.ireturn, 1) := by decide +kernel
abbrev vwCl : List vw_C := [(RX0, TX0, 8), (RX1, TX1, 4), (RX2, TX2, 4), (RX3, TX3, 7), (RX4, TX4, 4), (RX5, TX5, 2), (RX6, TX6, 5), (RX7, TX7, 5), (RX8, TX8, 10), (RX9, TX9, 32)]
