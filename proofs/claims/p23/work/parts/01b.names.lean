theorem dX1_init_17 : decode cX1_init 17 = .ok (.putfield 15, 3) := by decide +kernel
theorem dX1_init_20 : decode cX1_init 20 = .ok (.aload_n 0, 1) := by decide +kernel
theorem dX1_init_21 : decode cX1_init 21 = .ok (.bipush 10, 2) := by decide +kernel
theorem dX1_init_23 : decode cX1_init 23 = .ok (.putfield 18, 3) := by decide +kernel
theorem dX1_init_26 : decode cX1_init 26 = .ok (.return_, 1) := by decide +kernel
set_option maxRecDepth 20000 in
theorem ggX1_add_X8_within : GoodIn wsX1_add wsX8_within := goodIn_sub (am_cons (List.mem_cons_of_mem _ (List.mem_append_left _ (List.mem_of_getElem? (i := 5) rfl))) (am_nil)) (by decide +kernel)
set_option maxRecDepth 20000 in
theorem gX1_add_X8_within_n22 : GoodIn wsX1_add (wsX8_within) := ggX1_add_X8_within
theorem dX1_add_0 : decode cX1_add 0 = .ok (.iload_n 1, 1) := by decide +kernel
theorem dX1_add_1 : decode cX1_add 1 = .ok (.iconst 1, 1) := by decide +kernel
theorem dX1_add_2 : decode cX1_add 2 = .ok (.sipush 10000, 3) := by decide +kernel
theorem dX1_add_5 : decode cX1_add 5 = .ok (.invokestatic 22, 3) := by decide +kernel
theorem dX1_add_8 : decode cX1_add 8 = .ok (.ifCond .eq 14, 3) := by decide +kernel
theorem dX1_add_11 : decode cX1_add 11 = .ok (.iload_n 2, 1) := by decide +kernel
theorem dX1_add_12 : decode cX1_add 12 = .ok (.iconst 1, 1) := by decide +kernel
theorem dX1_add_13 : decode cX1_add 13 = .ok (.sipush 10000, 3) := by decide +kernel
theorem dX1_add_16 : decode cX1_add 16 = .ok (.invokestatic 22, 3) := by decide +kernel
theorem dX1_add_19 : decode cX1_add 19 = .ok (.ifCond .ne 5, 3) := by decide +kernel
theorem dX1_add_22 : decode cX1_add 22 = .ok (.iconst (-1), 1) := by decide +kernel
theorem dX1_add_23 : decode cX1_add 23 = .ok (.ireturn, 1) := by decide +kernel
theorem dX1_add_24 : decode cX1_add 24 = .ok (.aload_n 0, 1) := by decide +kernel
theorem dX1_add_25 : decode cX1_add 25 = .ok (.getfield 26, 3) := by decide +kernel
theorem dX1_add_28 : decode cX1_add 28 = .ok (.bipush 12, 2) := by decide +kernel
theorem dX1_add_30 : decode cX1_add 30 = .ok (.if_icmp .lt 6, 3) := by decide +kernel
theorem dX1_add_33 : decode cX1_add 33 = .ok (.bipush (-3), 2) := by decide +kernel
theorem dX1_add_35 : decode cX1_add 35 = .ok (.ireturn, 1) := by decide +kernel
theorem dX1_add_36 : decode cX1_add 36 = .ok (.aload_n 0, 1) := by decide +kernel
theorem dX1_add_37 : decode cX1_add 37 = .ok (.getfield 9, 3) := by decide +kernel
theorem dX1_add_40 : decode cX1_add 40 = .ok (.aload_n 0, 1) := by decide +kernel
theorem dX1_add_41 : decode cX1_add 41 = .ok (.getfield 26, 3) := by decide +kernel
theorem dX1_add_44 : decode cX1_add 44 = .ok (.iload_n 1, 1) := by decide +kernel
theorem dX1_add_45 : decode cX1_add 45 = .ok (.iastore, 1) := by decide +kernel
theorem dX1_add_46 : decode cX1_add 46 = .ok (.aload_n 0, 1) := by decide +kernel
theorem dX1_add_47 : decode cX1_add 47 = .ok (.getfield 15, 3) := by decide +kernel
theorem dX1_add_50 : decode cX1_add 50 = .ok (.aload_n 0, 1) := by decide +kernel
theorem dX1_add_51 : decode cX1_add 51 = .ok (.getfield 26, 3) := by decide +kernel
theorem dX1_add_54 : decode cX1_add 54 = .ok (.iload_n 2, 1) := by decide +kernel
theorem dX1_add_55 : decode cX1_add 55 = .ok (.iastore, 1) := by decide +kernel
theorem dX1_add_56 : decode cX1_add 56 = .ok (.aload_n 0, 1) := by decide +kernel
theorem dX1_add_57 : decode cX1_add 57 = .ok (.dup, 1) := by decide +kernel
theorem dX1_add_58 : decode cX1_add 58 = .ok (.getfield 26, 3) := by decide +kernel
theorem dX1_add_61 : decode cX1_add 61 = .ok (.iconst 1, 1) := by decide +kernel
theorem dX1_add_62 : decode cX1_add 62 = .ok (.iadd, 1) := by decide +kernel
theorem dX1_add_63 : decode cX1_add 63 = .ok (.putfield 26, 3) := by decide +kernel
theorem dX1_add_66 : decode cX1_add 66 = .ok (.aload_n 0, 1) := by decide +kernel
theorem dX1_add_67 : decode cX1_add 67 = .ok (.getfield 26, 3) := by decide +kernel
theorem dX1_add_70 : decode cX1_add 70 = .ok (.iconst 1, 1) := by decide +kernel
theorem dX1_add_71 : decode cX1_add 71 = .ok (.isub, 1) := by decide +kernel
theorem dX1_add_72 : decode cX1_add 72 = .ok (.ireturn, 1) := by decide +kernel
theorem dX1_allBits_0 : decode cX1_allBits 0 = .ok (.iconst 1, 1) := by decide +kernel
theorem dX1_allBits_1 : decode cX1_allBits 1 = .ok (.aload_n 0, 1) := by decide +kernel
theorem dX1_allBits_2 : decode cX1_allBits 2 = .ok (.getfield 26, 3) := by decide +kernel
theorem dX1_allBits_5 : decode cX1_allBits 5 = .ok (.ishl, 1) := by decide +kernel
theorem dX1_allBits_6 : decode cX1_allBits 6 = .ok (.iconst 1, 1) := by decide +kernel
theorem dX1_allBits_7 : decode cX1_allBits 7 = .ok (.isub, 1) := by decide +kernel
theorem dX1_allBits_8 : decode cX1_allBits 8 = .ok (.ireturn, 1) := by decide +kernel
set_option maxRecDepth 20000 in
theorem ggX1_explainedBy_X1_near : GoodIn wsX1_explainedBy wsX1_near := goodIn_sub (am_cons (List.mem_cons_of_mem _ (List.mem_append_left _ (List.mem_append_left _ (List.mem_of_getElem? (i := 4) rfl)))) (am_app (am_cons (List.mem_cons_of_mem _ (List.mem_append_left _ (List.mem_append_left _ (List.mem_of_getElem? (i := 5) rfl)))) (am_cons (List.mem_cons_of_mem _ (List.mem_append_left _ (List.mem_append_left _ (List.mem_of_getElem? (i := 6) rfl)))) (am_cons (List.mem_cons_of_mem _ (List.mem_append_left _ (List.mem_append_left _ (List.mem_of_getElem? (i := 7) rfl)))) (am_cons (List.mem_cons_of_mem _ (List.mem_append_left _ (List.mem_append_left _ (List.mem_of_getElem? (i := 8) rfl)))) (am_cons (List.mem_cons_of_mem _ (List.mem_append_left _ (List.mem_append_left _ (List.mem_of_getElem? (i := 9) rfl)))) (am_cons (List.mem_cons_of_mem _ (List.mem_append_left _ (List.mem_append_left _ (List.mem_of_getElem? (i := 10) rfl)))) (am_cons (List.mem_cons_of_mem _ (List.mem_append_left _ (List.mem_append_left _ (List.mem_of_getElem? (i := 11) rfl)))) (am_cons (List.mem_cons_of_mem _ (List.mem_append_left _ (List.mem_append_left _ (List.mem_of_getElem? (i := 12) rfl)))) (am_cons (List.mem_cons_of_mem _ (List.mem_append_left _ (List.mem_append_left _ (List.mem_of_getElem? (i := 13) rfl)))) am_nil))))))))) (fun _ h => List.mem_cons_of_mem _ (List.mem_append_right _ (h))))) (by decide +kernel)
set_option maxRecDepth 20000 in
theorem gX1_explainedBy_X1_near : GoodIn wsX1_explainedBy (wsV RX1 37 RX1 yX1_near wsX1_near) := goodIn_app (goodIn_sub (am_cons (List.mem_cons_of_mem _ (List.mem_append_left _ (List.mem_append_left _ (List.mem_of_getElem? (i := 0) rfl)))) (am_cons (List.mem_cons_of_mem _ (List.mem_append_left _ (List.mem_append_left _ (List.mem_of_getElem? (i := 1) rfl)))) (am_cons (List.mem_cons_of_mem _ (List.mem_append_left _ (List.mem_append_left _ (List.mem_of_getElem? (i := 2) rfl)))) (am_cons (List.mem_cons_of_mem _ (List.mem_append_left _ (List.mem_append_left _ (List.mem_of_getElem? (i := 3) rfl)))) am_nil)))) (by decide +kernel)) ggX1_explainedBy_X1_near
theorem dX1_explainedBy_0 : decode cX1_explainedBy 0 = .ok (.iconst 0, 1) := by decide +kernel
theorem dX1_explainedBy_1 : decode cX1_explainedBy 1 = .ok (.istore_n 2, 1) := by decide +kernel
theorem dX1_explainedBy_2 : decode cX1_explainedBy 2 = .ok (.iconst 0, 1) := by decide +kernel
theorem dX1_explainedBy_3 : decode cX1_explainedBy 3 = .ok (.istore_n 3, 1) := by decide +kernel
theorem dX1_explainedBy_4 : decode cX1_explainedBy 4 = .ok (.iload_n 3, 1) := by decide +kernel
theorem dX1_explainedBy_5 : decode cX1_explainedBy 5 = .ok (.aload_n 1, 1) := by decide +kernel
theorem dX1_explainedBy_6 : decode cX1_explainedBy 6 = .ok (.getfield 29, 3) := by decide +kernel
theorem dX1_explainedBy_9 : decode cX1_explainedBy 9 = .ok (.if_icmp .ge 28, 3) := by decide +kernel
theorem dX1_explainedBy_12 : decode cX1_explainedBy 12 = .ok (.iload_n 2, 1) := by decide +kernel
theorem dX1_explainedBy_13 : decode cX1_explainedBy 13 = .ok (.aload_n 0, 1) := by decide +kernel
theorem dX1_explainedBy_14 : decode cX1_explainedBy 14 = .ok (.aload_n 1, 1) := by decide +kernel
theorem dX1_explainedBy_15 : decode cX1_explainedBy 15 = .ok (.getfield 32, 3) := by decide +kernel
theorem dX1_explainedBy_18 : decode cX1_explainedBy 18 = .ok (.iload_n 3, 1) := by decide +kernel
theorem dX1_explainedBy_19 : decode cX1_explainedBy 19 = .ok (.laload, 1) := by decide +kernel
theorem dX1_explainedBy_20 : decode cX1_explainedBy 20 = .ok (.aload_n 1, 1) := by decide +kernel
theorem dX1_explainedBy_21 : decode cX1_explainedBy 21 = .ok (.getfield 35, 3) := by decide +kernel
theorem dX1_explainedBy_24 : decode cX1_explainedBy 24 = .ok (.iload_n 3, 1) := by decide +kernel
theorem dX1_explainedBy_25 : decode cX1_explainedBy 25 = .ok (.laload, 1) := by decide +kernel
theorem dX1_explainedBy_26 : decode cX1_explainedBy 26 = .ok (.invokevirtual 37, 3) := by decide +kernel
theorem dX1_explainedBy_29 : decode cX1_explainedBy 29 = .ok (.ior, 1) := by decide +kernel
theorem dX1_explainedBy_30 : decode cX1_explainedBy 30 = .ok (.istore_n 2, 1) := by decide +kernel
theorem dX1_explainedBy_31 : decode cX1_explainedBy 31 = .ok (.iinc 3 1, 3) := by decide +kernel
theorem dX1_explainedBy_34 : decode cX1_explainedBy 34 = .ok (.goto (-30), 3) := by decide +kernel
theorem dX1_explainedBy_37 : decode cX1_explainedBy 37 = .ok (.iload_n 2, 1) := by decide +kernel
theorem dX1_explainedBy_38 : decode cX1_explainedBy 38 = .ok (.ireturn, 1) := by decide +kernel
set_option maxRecDepth 20000 in
theorem ggX1_allTonesSeen_X1_near : GoodIn wsX1_allTonesSeen wsX1_near := goodIn_sub (am_cons (List.mem_cons_of_mem _ (List.mem_append_left _ (List.mem_append_left _ (List.mem_of_getElem? (i := 4) rfl)))) (am_app (am_cons (List.mem_cons_of_mem _ (List.mem_append_left _ (List.mem_append_left _ (List.mem_of_getElem? (i := 5) rfl)))) (am_cons (List.mem_cons_of_mem _ (List.mem_append_left _ (List.mem_append_left _ (List.mem_of_getElem? (i := 6) rfl)))) (am_cons (List.mem_cons_of_mem _ (List.mem_append_left _ (List.mem_append_left _ (List.mem_of_getElem? (i := 7) rfl)))) (am_cons (List.mem_cons_of_mem _ (List.mem_append_left _ (List.mem_append_left _ (List.mem_of_getElem? (i := 8) rfl)))) (am_cons (List.mem_cons_of_mem _ (List.mem_append_left _ (List.mem_append_left _ (List.mem_of_getElem? (i := 9) rfl)))) (am_cons (List.mem_cons_of_mem _ (List.mem_append_left _ (List.mem_append_left _ (List.mem_of_getElem? (i := 10) rfl)))) (am_cons (List.mem_cons_of_mem _ (List.mem_append_left _ (List.mem_append_left _ (List.mem_of_getElem? (i := 11) rfl)))) (am_cons (List.mem_cons_of_mem _ (List.mem_append_left _ (List.mem_append_left _ (List.mem_of_getElem? (i := 12) rfl)))) (am_cons (List.mem_cons_of_mem _ (List.mem_append_left _ (List.mem_append_left _ (List.mem_of_getElem? (i := 13) rfl)))) am_nil))))))))) (fun _ h => List.mem_cons_of_mem _ (List.mem_append_right _ (h))))) (by decide +kernel)
set_option maxRecDepth 20000 in
theorem gX1_allTonesSeen_X1_near : GoodIn wsX1_allTonesSeen (wsV RX1 37 RX1 yX1_near wsX1_near) := goodIn_app (goodIn_sub (am_cons (List.mem_cons_of_mem _ (List.mem_append_left _ (List.mem_append_left _ (List.mem_of_getElem? (i := 0) rfl)))) (am_cons (List.mem_cons_of_mem _ (List.mem_append_left _ (List.mem_append_left _ (List.mem_of_getElem? (i := 1) rfl)))) (am_cons (List.mem_cons_of_mem _ (List.mem_append_left _ (List.mem_append_left _ (List.mem_of_getElem? (i := 2) rfl)))) (am_cons (List.mem_cons_of_mem _ (List.mem_append_left _ (List.mem_append_left _ (List.mem_of_getElem? (i := 3) rfl)))) am_nil)))) (by decide +kernel)) ggX1_allTonesSeen_X1_near
theorem dX1_allTonesSeen_0 : decode cX1_allTonesSeen 0 = .ok (.iconst 0, 1) := by decide +kernel
theorem dX1_allTonesSeen_1 : decode cX1_allTonesSeen 1 = .ok (.istore_n 2, 1) := by decide +kernel
theorem dX1_allTonesSeen_2 : decode cX1_allTonesSeen 2 = .ok (.iload_n 2, 1) := by decide +kernel
theorem dX1_allTonesSeen_3 : decode cX1_allTonesSeen 3 = .ok (.aload_n 1, 1) := by decide +kernel
theorem dX1_allTonesSeen_4 : decode cX1_allTonesSeen 4 = .ok (.getfield 29, 3) := by decide +kernel
theorem dX1_allTonesSeen_7 : decode cX1_allTonesSeen 7 = .ok (.if_icmp .ge 30, 3) := by decide +kernel
theorem dX1_allTonesSeen_10 : decode cX1_allTonesSeen 10 = .ok (.aload_n 0, 1) := by decide +kernel
theorem dX1_allTonesSeen_11 : decode cX1_allTonesSeen 11 = .ok (.aload_n 1, 1) := by decide +kernel
theorem dX1_allTonesSeen_12 : decode cX1_allTonesSeen 12 = .ok (.getfield 32, 3) := by decide +kernel
theorem dX1_allTonesSeen_15 : decode cX1_allTonesSeen 15 = .ok (.iload_n 2, 1) := by decide +kernel
theorem dX1_allTonesSeen_16 : decode cX1_allTonesSeen 16 = .ok (.laload, 1) := by decide +kernel
theorem dX1_allTonesSeen_17 : decode cX1_allTonesSeen 17 = .ok (.aload_n 1, 1) := by decide +kernel
theorem dX1_allTonesSeen_18 : decode cX1_allTonesSeen 18 = .ok (.getfield 35, 3) := by decide +kernel
theorem dX1_allTonesSeen_21 : decode cX1_allTonesSeen 21 = .ok (.iload_n 2, 1) := by decide +kernel
theorem dX1_allTonesSeen_22 : decode cX1_allTonesSeen 22 = .ok (.laload, 1) := by decide +kernel
theorem dX1_allTonesSeen_23 : decode cX1_allTonesSeen 23 = .ok (.invokevirtual 37, 3) := by decide +kernel
theorem dX1_allTonesSeen_26 : decode cX1_allTonesSeen 26 = .ok (.ifCond .ne 5, 3) := by decide +kernel
theorem dX1_allTonesSeen_29 : decode cX1_allTonesSeen 29 = .ok (.iconst 0, 1) := by decide +kernel
theorem dX1_allTonesSeen_30 : decode cX1_allTonesSeen 30 = .ok (.ireturn, 1) := by decide +kernel
theorem dX1_allTonesSeen_31 : decode cX1_allTonesSeen 31 = .ok (.iinc 2 1, 3) := by decide +kernel
theorem dX1_allTonesSeen_34 : decode cX1_allTonesSeen 34 = .ok (.goto (-32), 3) := by decide +kernel
theorem dX1_allTonesSeen_37 : decode cX1_allTonesSeen 37 = .ok (.iconst 1, 1) := by decide +kernel
theorem dX1_allTonesSeen_38 : decode cX1_allTonesSeen 38 = .ok (.ireturn, 1) := by decide +kernel
theorem dX1_near_0 : decode cX1_near 0 = .ok (.iconst 0, 1) := by decide +kernel
theorem dX1_near_1 : decode cX1_near 1 = .ok (.istore 5, 2) := by decide +kernel
theorem dX1_near_3 : decode cX1_near 3 = .ok (.iconst 0, 1) := by decide +kernel
theorem dX1_near_4 : decode cX1_near 4 = .ok (.istore 6, 2) := by decide +kernel
theorem dX1_near_6 : decode cX1_near 6 = .ok (.iload 6, 2) := by decide +kernel
theorem dX1_near_8 : decode cX1_near 8 = .ok (.aload_n 0, 1) := by decide +kernel
theorem dX1_near_9 : decode cX1_near 9 = .ok (.getfield 26, 3) := by decide +kernel
theorem dX1_near_12 : decode cX1_near 12 = .ok (.if_icmp .ge 66, 3) := by decide +kernel
theorem dX1_near_15 : decode cX1_near 15 = .ok (.lload_n 1, 1) := by decide +kernel
theorem dX1_near_16 : decode cX1_near 16 = .ok (.aload_n 0, 1) := by decide +kernel
theorem dX1_near_17 : decode cX1_near 17 = .ok (.getfield 15, 3) := by decide +kernel
theorem dX1_near_20 : decode cX1_near 20 = .ok (.iload 6, 2) := by decide +kernel
theorem dX1_near_22 : decode cX1_near 22 = .ok (.iaload, 1) := by decide +kernel
theorem dX1_near_23 : decode cX1_near 23 = .ok (.i2l, 1) := by decide +kernel
theorem dX1_near_24 : decode cX1_near 24 = .ok (.lmul, 1) := by decide +kernel
theorem dX1_near_25 : decode cX1_near 25 = .ok (.lstore 7, 2) := by decide +kernel
theorem dX1_near_27 : decode cX1_near 27 = .ok (.aload_n 0, 1) := by decide +kernel
theorem dX1_near_28 : decode cX1_near 28 = .ok (.getfield 9, 3) := by decide +kernel
theorem dX1_near_31 : decode cX1_near 31 = .ok (.iload 6, 2) := by decide +kernel
theorem dX1_near_33 : decode cX1_near 33 = .ok (.iaload, 1) := by decide +kernel
theorem dX1_near_34 : decode cX1_near 34 = .ok (.i2l, 1) := by decide +kernel
theorem dX1_near_35 : decode cX1_near 35 = .ok (.lload_n 3, 1) := by decide +kernel
theorem dX1_near_36 : decode cX1_near 36 = .ok (.lmul, 1) := by decide +kernel
theorem dX1_near_37 : decode cX1_near 37 = .ok (.lload 7, 2) := by decide +kernel
theorem dX1_near_39 : decode cX1_near 39 = .ok (.lsub, 1) := by decide +kernel
theorem dX1_near_40 : decode cX1_near 40 = .ok (.invokestatic 41, 3) := by decide +kernel
theorem dX1_near_43 : decode cX1_near 43 = .ok (.lstore 9, 2) := by decide +kernel
theorem dX1_near_45 : decode cX1_near 45 = .ok (.lload 9, 2) := by decide +kernel
theorem dX1_near_47 : decode cX1_near 47 = .ok (.ldc2_w 47, 3) := by decide +kernel
theorem dX1_near_50 : decode cX1_near 50 = .ok (.lmul, 1) := by decide +kernel
theorem dX1_near_51 : decode cX1_near 51 = .ok (.aload_n 0, 1) := by decide +kernel
theorem dX1_near_52 : decode cX1_near 52 = .ok (.getfield 18, 3) := by decide +kernel
theorem dX1_near_55 : decode cX1_near 55 = .ok (.i2l, 1) := by decide +kernel
theorem dX1_near_56 : decode cX1_near 56 = .ok (.lload 7, 2) := by decide +kernel
theorem dX1_near_58 : decode cX1_near 58 = .ok (.lmul, 1) := by decide +kernel
theorem dX1_near_59 : decode cX1_near 59 = .ok (.lcmp, 1) := by decide +kernel
theorem dX1_near_60 : decode cX1_near 60 = .ok (.ifCond .gt 12, 3) := by decide +kernel
theorem dX1_near_63 : decode cX1_near 63 = .ok (.iload 5, 2) := by decide +kernel
theorem dX1_near_65 : decode cX1_near 65 = .ok (.iconst 1, 1) := by decide +kernel
theorem dX1_near_66 : decode cX1_near 66 = .ok (.iload 6, 2) := by decide +kernel
theorem dX1_near_68 : decode cX1_near 68 = .ok (.ishl, 1) := by decide +kernel
theorem dX1_near_69 : decode cX1_near 69 = .ok (.ior, 1) := by decide +kernel
theorem dX1_near_70 : decode cX1_near 70 = .ok (.istore 5, 2) := by decide +kernel
theorem dX1_near_72 : decode cX1_near 72 = .ok (.iinc 6 1, 3) := by decide +kernel
theorem dX1_near_75 : decode cX1_near 75 = .ok (.goto (-69), 3) := by decide +kernel
theorem dX1_near_78 : decode cX1_near 78 = .ok (.iload 5, 2) := by decide +kernel
theorem dX1_near_80 : decode cX1_near 80 = .ok (.ireturn, 1) := by decide +kernel
theorem dX2_init_0 : decode cX2_init 0 = .ok (.aload_n 0, 1) := by decide +kernel
theorem dX2_init_1 : decode cX2_init 1 = .ok (.invokespecial 3, 3) := by decide +kernel
theorem dX2_init_4 : decode cX2_init 4 = .ok (.aload_n 0, 1) := by decide +kernel
theorem dX2_init_5 : decode cX2_init 5 = .ok (.sipush 200, 3) := by decide +kernel
theorem dX2_init_8 : decode cX2_init 8 = .ok (.newarray .int, 2) := by decide +kernel
theorem dX2_init_10 : decode cX2_init 10 = .ok (.putfield 9, 3) := by decide +kernel
theorem dX2_init_13 : decode cX2_init 13 = .ok (.return_, 1) := by decide +kernel
set_option maxRecDepth 20000 in
theorem ggX2_add_X2_middleOfFirst : GoodIn wsX2_add wsX2_middleOfFirst := goodIn_sub (am_cons (List.mem_cons_of_mem _ (List.mem_append_left _ (List.mem_of_getElem? (i := 7) rfl))) (am_app (am_cons (List.mem_cons_of_mem _ (List.mem_append_left _ (List.mem_of_getElem? (i := 1) rfl))) (am_cons (List.mem_cons_of_mem _ (List.mem_append_left _ (List.mem_of_getElem? (i := 8) rfl))) (am_cons (List.mem_cons_of_mem _ (List.mem_append_left _ (List.mem_of_getElem? (i := 9) rfl))) (am_cons (List.mem_cons_of_mem _ (List.mem_append_left _ (List.mem_of_getElem? (i := 10) rfl))) (am_cons (List.mem_cons_of_mem _ (List.mem_append_left _ (List.mem_of_getElem? (i := 6) rfl))) (am_cons (List.mem_cons_of_mem _ (List.mem_append_left _ (List.mem_of_getElem? (i := 11) rfl))) am_nil)))))) (fun _ h => List.mem_cons_of_mem _ (List.mem_append_right _ (h))))) (by decide +kernel)
set_option maxRecDepth 20000 in
theorem gX2_add_X2_middleOfFirst : GoodIn wsX2_add (wsV RX2 19 RX2 yX2_middleOfFirst wsX2_middleOfFirst) := goodIn_app (goodIn_sub (am_cons (List.mem_cons_of_mem _ (List.mem_append_left _ (List.mem_of_getElem? (i := 3) rfl))) (am_cons (List.mem_cons_of_mem _ (List.mem_append_left _ (List.mem_of_getElem? (i := 4) rfl))) (am_cons (List.mem_cons_of_mem _ (List.mem_append_left _ (List.mem_of_getElem? (i := 5) rfl))) (am_cons (List.mem_cons_of_mem _ (List.mem_append_left _ (List.mem_of_getElem? (i := 6) rfl))) am_nil)))) (by decide +kernel)) ggX2_add_X2_middleOfFirst
theorem dX2_add_0 : decode cX2_add 0 = .ok (.aload_n 0, 1) := by decide +kernel
theorem dX2_add_1 : decode cX2_add 1 = .ok (.getfield 15, 3) := by decide +kernel
theorem dX2_add_4 : decode cX2_add 4 = .ok (.sipush 200, 3) := by decide +kernel
theorem dX2_add_7 : decode cX2_add 7 = .ok (.if_icmp .lt 4, 3) := by decide +kernel
theorem dX2_add_10 : decode cX2_add 10 = .ok (.return_, 1) := by decide +kernel
theorem dX2_add_11 : decode cX2_add 11 = .ok (.aload_n 0, 1) := by decide +kernel
theorem dX2_add_12 : decode cX2_add 12 = .ok (.getfield 9, 3) := by decide +kernel
theorem dX2_add_15 : decode cX2_add 15 = .ok (.aload_n 0, 1) := by decide +kernel
theorem dX2_add_16 : decode cX2_add 16 = .ok (.getfield 15, 3) := by decide +kernel
theorem dX2_add_19 : decode cX2_add 19 = .ok (.iload_n 1, 1) := by decide +kernel
theorem dX2_add_20 : decode cX2_add 20 = .ok (.iastore, 1) := by decide +kernel
theorem dX2_add_21 : decode cX2_add 21 = .ok (.aload_n 0, 1) := by decide +kernel
theorem dX2_add_22 : decode cX2_add 22 = .ok (.dup, 1) := by decide +kernel
theorem dX2_add_23 : decode cX2_add 23 = .ok (.getfield 15, 3) := by decide +kernel
theorem dX2_add_26 : decode cX2_add 26 = .ok (.iconst 1, 1) := by decide +kernel
theorem dX2_add_27 : decode cX2_add 27 = .ok (.iadd, 1) := by decide +kernel
theorem dX2_add_28 : decode cX2_add 28 = .ok (.putfield 15, 3) := by decide +kernel
theorem dX2_add_31 : decode cX2_add 31 = .ok (.aload_n 0, 1) := by decide +kernel
theorem dX2_add_32 : decode cX2_add 32 = .ok (.getfield 15, 3) := by decide +kernel
theorem dX2_add_35 : decode cX2_add 35 = .ok (.iconst 5, 1) := by decide +kernel
theorem dX2_add_36 : decode cX2_add 36 = .ok (.if_icmp .ne 11, 3) := by decide +kernel
theorem dX2_add_39 : decode cX2_add 39 = .ok (.aload_n 0, 1) := by decide +kernel
theorem dX2_add_40 : decode cX2_add 40 = .ok (.aload_n 0, 1) := by decide +kernel
theorem dX2_add_41 : decode cX2_add 41 = .ok (.invokevirtual 19, 3) := by decide +kernel
theorem dX2_add_44 : decode cX2_add 44 = .ok (.putfield 23, 3) := by decide +kernel
theorem dX2_add_47 : decode cX2_add 47 = .ok (.return_, 1) := by decide +kernel
theorem dX2_clear_0 : decode cX2_clear 0 = .ok (.aload_n 0, 1) := by decide +kernel
theorem dX2_clear_1 : decode cX2_clear 1 = .ok (.iconst 0, 1) := by decide +kernel
theorem dX2_clear_2 : decode cX2_clear 2 = .ok (.putfield 15, 3) := by decide +kernel
theorem dX2_clear_5 : decode cX2_clear 5 = .ok (.aload_n 0, 1) := by decide +kernel
theorem dX2_clear_6 : decode cX2_clear 6 = .ok (.iconst 0, 1) := by decide +kernel
theorem dX2_clear_7 : decode cX2_clear 7 = .ok (.putfield 26, 3) := by decide +kernel
theorem dX2_clear_10 : decode cX2_clear 10 = .ok (.return_, 1) := by decide +kernel
set_option maxRecDepth 20000 in
theorem ggX2_judge_X2_latestAllAbove : GoodIn wsX2_judge wsX2_latestAllAbove := goodIn_sub (am_cons (List.mem_cons_of_mem _ (List.mem_append_left _ (List.mem_of_getElem? (i := 9) rfl))) (am_app (am_cons (List.mem_cons_of_mem _ (List.mem_append_left _ (List.mem_of_getElem? (i := 0) rfl))) (am_cons (List.mem_cons_of_mem _ (List.mem_append_left _ (List.mem_of_getElem? (i := 2) rfl))) (am_cons (List.mem_cons_of_mem _ (List.mem_append_left _ (List.mem_of_getElem? (i := 3) rfl))) (am_cons (List.mem_cons_of_mem _ (List.mem_append_left _ (List.mem_of_getElem? (i := 4) rfl))) am_nil)))) (fun _ h => List.mem_cons_of_mem _ (List.mem_append_right _ (h))))) (by decide +kernel)
set_option maxRecDepth 20000 in
theorem gX2_judge_X2_latestAllAbove : GoodIn wsX2_judge (wsV RX2 30 RX2 yX2_latestAllAbove wsX2_latestAllAbove) := goodIn_app (goodIn_sub (am_cons (List.mem_cons_of_mem _ (List.mem_append_left _ (List.mem_of_getElem? (i := 5) rfl))) (am_cons (List.mem_cons_of_mem _ (List.mem_append_left _ (List.mem_of_getElem? (i := 6) rfl))) (am_cons (List.mem_cons_of_mem _ (List.mem_append_left _ (List.mem_of_getElem? (i := 7) rfl))) (am_cons (List.mem_cons_of_mem _ (List.mem_append_left _ (List.mem_of_getElem? (i := 8) rfl))) am_nil)))) (by decide +kernel)) ggX2_judge_X2_latestAllAbove
theorem dX2_judge_0 : decode cX2_judge 0 = .ok (.aload_n 0, 1) := by decide +kernel
theorem dX2_judge_1 : decode cX2_judge 1 = .ok (.getfield 15, 3) := by decide +kernel
theorem dX2_judge_4 : decode cX2_judge 4 = .ok (.iconst 5, 1) := by decide +kernel
theorem dX2_judge_5 : decode cX2_judge 5 = .ok (.if_icmp .gt 4, 3) := by decide +kernel
theorem dX2_judge_8 : decode cX2_judge 8 = .ok (.return_, 1) := by decide +kernel
theorem dX2_judge_9 : decode cX2_judge 9 = .ok (.aload_n 0, 1) := by decide +kernel
theorem dX2_judge_10 : decode cX2_judge 10 = .ok (.iload_n 1, 1) := by decide +kernel
theorem dX2_judge_11 : decode cX2_judge 11 = .ok (.iload_n 3, 1) := by decide +kernel
theorem dX2_judge_12 : decode cX2_judge 12 = .ok (.invokevirtual 30, 3) := by decide +kernel
theorem dX2_judge_15 : decode cX2_judge 15 = .ok (.ifCond .eq 11, 3) := by decide +kernel
theorem dX2_judge_18 : decode cX2_judge 18 = .ok (.aload_n 0, 1) := by decide +kernel
theorem dX2_judge_19 : decode cX2_judge 19 = .ok (.iconst 1, 1) := by decide +kernel
theorem dX2_judge_20 : decode cX2_judge 20 = .ok (.putfield 26, 3) := by decide +kernel
theorem dX2_judge_23 : decode cX2_judge 23 = .ok (.goto 36, 3) := by decide +kernel
theorem dX2_judge_26 : decode cX2_judge 26 = .ok (.aload_n 0, 1) := by decide +kernel
theorem dX2_judge_27 : decode cX2_judge 27 = .ok (.getfield 9, 3) := by decide +kernel
theorem dX2_judge_30 : decode cX2_judge 30 = .ok (.aload_n 0, 1) := by decide +kernel
theorem dX2_judge_31 : decode cX2_judge 31 = .ok (.getfield 15, 3) := by decide +kernel
theorem dX2_judge_34 : decode cX2_judge 34 = .ok (.iconst 1, 1) := by decide +kernel
theorem dX2_judge_35 : decode cX2_judge 35 = .ok (.isub, 1) := by decide +kernel
theorem dX2_judge_36 : decode cX2_judge 36 = .ok (.iaload, 1) := by decide +kernel
theorem dX2_judge_37 : decode cX2_judge 37 = .ok (.i2l, 1) := by decide +kernel
theorem dX2_judge_38 : decode cX2_judge 38 = .ok (.ldc2_w 34, 3) := by decide +kernel
theorem dX2_judge_41 : decode cX2_judge 41 = .ok (.lmul, 1) := by decide +kernel
theorem dX2_judge_42 : decode cX2_judge 42 = .ok (.iload_n 2, 1) := by decide +kernel
theorem dX2_judge_43 : decode cX2_judge 43 = .ok (.i2l, 1) := by decide +kernel
theorem dX2_judge_44 : decode cX2_judge 44 = .ok (.aload_n 0, 1) := by decide +kernel
theorem dX2_judge_45 : decode cX2_judge 45 = .ok (.getfield 23, 3) := by decide +kernel
theorem dX2_judge_48 : decode cX2_judge 48 = .ok (.i2l, 1) := by decide +kernel
theorem dX2_judge_49 : decode cX2_judge 49 = .ok (.lmul, 1) := by decide +kernel
theorem dX2_judge_50 : decode cX2_judge 50 = .ok (.lcmp, 1) := by decide +kernel
theorem dX2_judge_51 : decode cX2_judge 51 = .ok (.ifCond .ge 8, 3) := by decide +kernel
theorem dX2_judge_54 : decode cX2_judge 54 = .ok (.aload_n 0, 1) := by decide +kernel
theorem dX2_judge_55 : decode cX2_judge 55 = .ok (.iconst 0, 1) := by decide +kernel
theorem dX2_judge_56 : decode cX2_judge 56 = .ok (.putfield 26, 3) := by decide +kernel
theorem dX2_judge_59 : decode cX2_judge 59 = .ok (.return_, 1) := by decide +kernel
theorem dX2_latestAllAbove_0 : decode cX2_latestAllAbove 0 = .ok (.aload_n 0, 1) := by decide +kernel
theorem dX2_latestAllAbove_1 : decode cX2_latestAllAbove 1 = .ok (.getfield 15, 3) := by decide +kernel
theorem dX2_latestAllAbove_4 : decode cX2_latestAllAbove 4 = .ok (.iconst 5, 1) := by decide +kernel
theorem dX2_latestAllAbove_5 : decode cX2_latestAllAbove 5 = .ok (.isub, 1) := by decide +kernel
theorem dX2_latestAllAbove_6 : decode cX2_latestAllAbove 6 = .ok (.iload_n 2, 1) := by decide +kernel
theorem dX2_latestAllAbove_7 : decode cX2_latestAllAbove 7 = .ok (.if_icmp .ge 5, 3) := by decide +kernel
theorem dX2_latestAllAbove_10 : decode cX2_latestAllAbove 10 = .ok (.iconst 0, 1) := by decide +kernel
theorem dX2_latestAllAbove_11 : decode cX2_latestAllAbove 11 = .ok (.ireturn, 1) := by decide +kernel
theorem dX2_latestAllAbove_12 : decode cX2_latestAllAbove 12 = .ok (.aload_n 0, 1) := by decide +kernel
theorem dX2_latestAllAbove_13 : decode cX2_latestAllAbove 13 = .ok (.getfield 15, 3) := by decide +kernel
theorem dX2_latestAllAbove_16 : decode cX2_latestAllAbove 16 = .ok (.iload_n 2, 1) := by decide +kernel
theorem dX2_latestAllAbove_17 : decode cX2_latestAllAbove 17 = .ok (.isub, 1) := by decide +kernel
theorem dX2_latestAllAbove_18 : decode cX2_latestAllAbove 18 = .ok (.istore_n 3, 1) := by decide +kernel
theorem dX2_latestAllAbove_19 : decode cX2_latestAllAbove 19 = .ok (.iload_n 3, 1) := by decide +kernel
theorem dX2_latestAllAbove_20 : decode cX2_latestAllAbove 20 = .ok (.aload_n 0, 1) := by decide +kernel
theorem dX2_latestAllAbove_21 : decode cX2_latestAllAbove 21 = .ok (.getfield 15, 3) := by decide +kernel
theorem dX2_latestAllAbove_24 : decode cX2_latestAllAbove 24 = .ok (.if_icmp .ge 34, 3) := by decide +kernel
theorem dX2_latestAllAbove_27 : decode cX2_latestAllAbove 27 = .ok (.aload_n 0, 1) := by decide +kernel
theorem dX2_latestAllAbove_28 : decode cX2_latestAllAbove 28 = .ok (.getfield 9, 3) := by decide +kernel
theorem dX2_latestAllAbove_31 : decode cX2_latestAllAbove 31 = .ok (.iload_n 3, 1) := by decide +kernel
theorem dX2_latestAllAbove_32 : decode cX2_latestAllAbove 32 = .ok (.iaload, 1) := by decide +kernel
theorem dX2_latestAllAbove_33 : decode cX2_latestAllAbove 33 = .ok (.i2l, 1) := by decide +kernel
theorem dX2_latestAllAbove_34 : decode cX2_latestAllAbove 34 = .ok (.ldc2_w 34, 3) := by decide +kernel
theorem dX2_latestAllAbove_37 : decode cX2_latestAllAbove 37 = .ok (.lmul, 1) := by decide +kernel
theorem dX2_latestAllAbove_38 : decode cX2_latestAllAbove 38 = .ok (.iload_n 1, 1) := by decide +kernel
theorem dX2_latestAllAbove_39 : decode cX2_latestAllAbove 39 = .ok (.i2l, 1) := by decide +kernel
theorem dX2_latestAllAbove_40 : decode cX2_latestAllAbove 40 = .ok (.aload_n 0, 1) := by decide +kernel
theorem dX2_latestAllAbove_41 : decode cX2_latestAllAbove 41 = .ok (.getfield 23, 3) := by decide +kernel
theorem dX2_latestAllAbove_44 : decode cX2_latestAllAbove 44 = .ok (.i2l, 1) := by decide +kernel
theorem dX2_latestAllAbove_45 : decode cX2_latestAllAbove 45 = .ok (.lmul, 1) := by decide +kernel
theorem dX2_latestAllAbove_46 : decode cX2_latestAllAbove 46 = .ok (.lcmp, 1) := by decide +kernel
theorem dX2_latestAllAbove_47 : decode cX2_latestAllAbove 47 = .ok (.ifCond .gt 5, 3) := by decide +kernel
theorem dX2_latestAllAbove_50 : decode cX2_latestAllAbove 50 = .ok (.iconst 0, 1) := by decide +kernel
theorem dX2_latestAllAbove_51 : decode cX2_latestAllAbove 51 = .ok (.ireturn, 1) := by decide +kernel
theorem dX2_latestAllAbove_52 : decode cX2_latestAllAbove 52 = .ok (.iinc 3 1, 3) := by decide +kernel
theorem dX2_latestAllAbove_55 : decode cX2_latestAllAbove 55 = .ok (.goto (-36), 3) := by decide +kernel
theorem dX2_latestAllAbove_58 : decode cX2_latestAllAbove 58 = .ok (.iconst 1, 1) := by decide +kernel
theorem dX2_latestAllAbove_59 : decode cX2_latestAllAbove 59 = .ok (.ireturn, 1) := by decide +kernel
set_option maxRecDepth 20000 in
theorem ggX2_middleOfFirst_X2_countFirst : GoodIn wsX2_middleOfFirst wsX2_countFirst := goodIn_sub (am_cons (List.mem_cons_of_mem _ (List.mem_append_left _ (List.mem_of_getElem? (i := 5) rfl))) (am_app (am_cons (List.mem_cons_of_mem _ (List.mem_append_left _ (List.mem_of_getElem? (i := 0) rfl))) am_nil) (fun _ h => List.mem_cons_of_mem _ (List.mem_append_right _ (h))))) (by decide +kernel)
set_option maxRecDepth 20000 in
theorem gX2_middleOfFirst_X2_countFirst : GoodIn wsX2_middleOfFirst (wsV RX2 36 RX2 yX2_countFirst wsX2_countFirst) := goodIn_app (goodIn_sub (am_cons (List.mem_cons_of_mem _ (List.mem_append_left _ (List.mem_of_getElem? (i := 1) rfl))) (am_cons (List.mem_cons_of_mem _ (List.mem_append_left _ (List.mem_of_getElem? (i := 2) rfl))) (am_cons (List.mem_cons_of_mem _ (List.mem_append_left _ (List.mem_of_getElem? (i := 3) rfl))) (am_cons (List.mem_cons_of_mem _ (List.mem_append_left _ (List.mem_of_getElem? (i := 4) rfl))) am_nil)))) (by decide +kernel)) ggX2_middleOfFirst_X2_countFirst
theorem dX2_middleOfFirst_0 : decode cX2_middleOfFirst 0 = .ok (.iconst 0, 1) := by decide +kernel
theorem dX2_middleOfFirst_1 : decode cX2_middleOfFirst 1 = .ok (.istore_n 1, 1) := by decide +kernel
theorem dX2_middleOfFirst_2 : decode cX2_middleOfFirst 2 = .ok (.iload_n 1, 1) := by decide +kernel
theorem dX2_middleOfFirst_3 : decode cX2_middleOfFirst 3 = .ok (.iconst 5, 1) := by decide +kernel
theorem dX2_middleOfFirst_4 : decode cX2_middleOfFirst 4 = .ok (.if_icmp .ge 46, 3) := by decide +kernel
theorem dX2_middleOfFirst_7 : decode cX2_middleOfFirst 7 = .ok (.aload_n 0, 1) := by decide +kernel
theorem dX2_middleOfFirst_8 : decode cX2_middleOfFirst 8 = .ok (.aload_n 0, 1) := by decide +kernel
theorem dX2_middleOfFirst_9 : decode cX2_middleOfFirst 9 = .ok (.getfield 9, 3) := by decide +kernel
theorem dX2_middleOfFirst_12 : decode cX2_middleOfFirst 12 = .ok (.iload_n 1, 1) := by decide +kernel
theorem dX2_middleOfFirst_13 : decode cX2_middleOfFirst 13 = .ok (.iaload, 1) := by decide +kernel
theorem dX2_middleOfFirst_14 : decode cX2_middleOfFirst 14 = .ok (.iconst 1, 1) := by decide +kernel
theorem dX2_middleOfFirst_15 : decode cX2_middleOfFirst 15 = .ok (.invokevirtual 36, 3) := by decide +kernel
theorem dX2_middleOfFirst_18 : decode cX2_middleOfFirst 18 = .ok (.iconst 2, 1) := by decide +kernel
theorem dX2_middleOfFirst_19 : decode cX2_middleOfFirst 19 = .ok (.if_icmp .gt 25, 3) := by decide +kernel
theorem dX2_middleOfFirst_22 : decode cX2_middleOfFirst 22 = .ok (.aload_n 0, 1) := by decide +kernel
theorem dX2_middleOfFirst_23 : decode cX2_middleOfFirst 23 = .ok (.aload_n 0, 1) := by decide +kernel
theorem dX2_middleOfFirst_24 : decode cX2_middleOfFirst 24 = .ok (.getfield 9, 3) := by decide +kernel
theorem dX2_middleOfFirst_27 : decode cX2_middleOfFirst 27 = .ok (.iload_n 1, 1) := by decide +kernel
theorem dX2_middleOfFirst_28 : decode cX2_middleOfFirst 28 = .ok (.iaload, 1) := by decide +kernel
theorem dX2_middleOfFirst_29 : decode cX2_middleOfFirst 29 = .ok (.iconst 0, 1) := by decide +kernel
theorem dX2_middleOfFirst_30 : decode cX2_middleOfFirst 30 = .ok (.invokevirtual 36, 3) := by decide +kernel
theorem dX2_middleOfFirst_33 : decode cX2_middleOfFirst 33 = .ok (.iconst 2, 1) := by decide +kernel
theorem dX2_middleOfFirst_34 : decode cX2_middleOfFirst 34 = .ok (.if_icmp .gt 10, 3) := by decide +kernel
theorem dX2_middleOfFirst_37 : decode cX2_middleOfFirst 37 = .ok (.aload_n 0, 1) := by decide +kernel
theorem dX2_middleOfFirst_38 : decode cX2_middleOfFirst 38 = .ok (.getfield 9, 3) := by decide +kernel
theorem dX2_middleOfFirst_41 : decode cX2_middleOfFirst 41 = .ok (.iload_n 1, 1) := by decide +kernel
theorem dX2_middleOfFirst_42 : decode cX2_middleOfFirst 42 = .ok (.iaload, 1) := by decide +kernel
theorem dX2_middleOfFirst_43 : decode cX2_middleOfFirst 43 = .ok (.ireturn, 1) := by decide +kernel
theorem dX2_middleOfFirst_44 : decode cX2_middleOfFirst 44 = .ok (.iinc 1 1, 3) := by decide +kernel
theorem dX2_middleOfFirst_47 : decode cX2_middleOfFirst 47 = .ok (.goto (-45), 3) := by decide +kernel
theorem dX2_middleOfFirst_50 : decode cX2_middleOfFirst 50 = .ok (.aload_n 0, 1) := by decide +kernel
theorem dX2_middleOfFirst_51 : decode cX2_middleOfFirst 51 = .ok (.getfield 9, 3) := by decide +kernel
theorem dX2_middleOfFirst_54 : decode cX2_middleOfFirst 54 = .ok (.iconst 0, 1) := by decide +kernel
theorem dX2_middleOfFirst_55 : decode cX2_middleOfFirst 55 = .ok (.iaload, 1) := by decide +kernel
theorem dX2_middleOfFirst_56 : decode cX2_middleOfFirst 56 = .ok (.ireturn, 1) := by decide +kernel
theorem dX2_countFirst_0 : decode cX2_countFirst 0 = .ok (.iconst 0, 1) := by decide +kernel
theorem dX2_countFirst_1 : decode cX2_countFirst 1 = .ok (.istore_n 3, 1) := by decide +kernel
theorem dX2_countFirst_2 : decode cX2_countFirst 2 = .ok (.iconst 0, 1) := by decide +kernel
theorem dX2_countFirst_3 : decode cX2_countFirst 3 = .ok (.istore 4, 2) := by decide +kernel
theorem dX2_countFirst_5 : decode cX2_countFirst 5 = .ok (.iload 4, 2) := by decide +kernel
theorem dX2_countFirst_7 : decode cX2_countFirst 7 = .ok (.iconst 5, 1) := by decide +kernel
theorem dX2_countFirst_8 : decode cX2_countFirst 8 = .ok (.if_icmp .ge 41, 3) := by decide +kernel
theorem dX2_countFirst_11 : decode cX2_countFirst 11 = .ok (.iload_n 2, 1) := by decide +kernel
theorem dX2_countFirst_12 : decode cX2_countFirst 12 = .ok (.ifCond .eq 17, 3) := by decide +kernel
theorem dX2_countFirst_15 : decode cX2_countFirst 15 = .ok (.aload_n 0, 1) := by decide +kernel
theorem dX2_countFirst_16 : decode cX2_countFirst 16 = .ok (.getfield 9, 3) := by decide +kernel
theorem dX2_countFirst_19 : decode cX2_countFirst 19 = .ok (.iload 4, 2) := by decide +kernel
theorem dX2_countFirst_21 : decode cX2_countFirst 21 = .ok (.iaload, 1) := by decide +kernel
theorem dX2_countFirst_22 : decode cX2_countFirst 22 = .ok (.iload_n 1, 1) := by decide +kernel
theorem dX2_countFirst_23 : decode cX2_countFirst 23 = .ok (.if_icmp .ge 20, 3) := by decide +kernel
theorem dX2_countFirst_26 : decode cX2_countFirst 26 = .ok (.goto 14, 3) := by decide +kernel
theorem dX2_countFirst_29 : decode cX2_countFirst 29 = .ok (.aload_n 0, 1) := by decide +kernel
theorem dX2_countFirst_30 : decode cX2_countFirst 30 = .ok (.getfield 9, 3) := by decide +kernel
theorem dX2_countFirst_33 : decode cX2_countFirst 33 = .ok (.iload 4, 2) := by decide +kernel
theorem dX2_countFirst_35 : decode cX2_countFirst 35 = .ok (.iaload, 1) := by decide +kernel
theorem dX2_countFirst_36 : decode cX2_countFirst 36 = .ok (.iload_n 1, 1) := by decide +kernel
theorem dX2_countFirst_37 : decode cX2_countFirst 37 = .ok (.if_icmp .le 6, 3) := by decide +kernel
theorem dX2_countFirst_40 : decode cX2_countFirst 40 = .ok (.iinc 3 1, 3) := by decide +kernel
theorem dX2_countFirst_43 : decode cX2_countFirst 43 = .ok (.iinc 4 1, 3) := by decide +kernel
theorem dX2_countFirst_46 : decode cX2_countFirst 46 = .ok (.goto (-41), 3) := by decide +kernel
theorem dX2_countFirst_49 : decode cX2_countFirst 49 = .ok (.iload_n 3, 1) := by decide +kernel
theorem dX2_countFirst_50 : decode cX2_countFirst 50 = .ok (.ireturn, 1) := by decide +kernel
set_option maxRecDepth 20000 in
theorem ggX3_init_X3_ownPart : GoodIn wsX3_init wsX3_ownPart := goodIn_sub (am_cons (List.mem_cons_of_mem _ (List.mem_append_left _ (List.mem_append_left _ (List.mem_append_left _ (List.mem_of_getElem? (i := 15) rfl))))) (am_app (am_app (am_app (am_cons (List.mem_cons_of_mem _ (List.mem_append_left _ (List.mem_append_left _ (List.mem_append_left _ (List.mem_of_getElem? (i := 6) rfl))))) (am_cons (List.mem_cons_of_mem _ (List.mem_append_left _ (List.mem_append_left _ (List.mem_append_left _ (List.mem_of_getElem? (i := 16) rfl))))) (am_cons (List.mem_cons_of_mem _ (List.mem_append_left _ (List.mem_append_left _ (List.mem_append_left _ (List.mem_of_getElem? (i := 17) rfl))))) (am_cons (List.mem_cons_of_mem _ (List.mem_append_left _ (List.mem_append_left _ (List.mem_append_left _ (List.mem_of_getElem? (i := 18) rfl))))) (am_cons (List.mem_cons_of_mem _ (List.mem_append_left _ (List.mem_append_left _ (List.mem_append_left _ (List.mem_of_getElem? (i := 19) rfl))))) (am_cons (List.mem_cons_of_mem _ (List.mem_append_left _ (List.mem_append_left _ (List.mem_append_left _ (List.mem_of_getElem? (i := 20) rfl))))) (am_cons (List.mem_cons_of_mem _ (List.mem_append_left _ (List.mem_append_left _ (List.mem_append_left _ (List.mem_of_getElem? (i := 21) rfl))))) (am_cons (List.mem_cons_of_mem _ (List.mem_append_left _ (List.mem_append_left _ (List.mem_append_left _ (List.mem_of_getElem? (i := 1) rfl))))) (am_cons (List.mem_cons_of_mem _ (List.mem_append_left _ (List.mem_append_left _ (List.mem_append_left _ (List.mem_of_getElem? (i := 2) rfl))))) (am_cons (List.mem_cons_of_mem _ (List.mem_append_left _ (List.mem_append_left _ (List.mem_append_left _ (List.mem_of_getElem? (i := 3) rfl))))) (am_cons (List.mem_cons_of_mem _ (List.mem_append_left _ (List.mem_append_left _ (List.mem_append_left _ (List.mem_of_getElem? (i := 22) rfl))))) (am_cons (List.mem_cons_of_mem _ (List.mem_append_left _ (List.mem_append_left _ (List.mem_append_left _ (List.mem_of_getElem? (i := 23) rfl))))) (am_cons (List.mem_cons_of_mem _ (List.mem_append_left _ (List.mem_append_left _ (List.mem_append_right _ (List.mem_of_getElem? (i := 0) rfl))))) (am_cons (List.mem_cons_of_mem _ (List.mem_append_left _ (List.mem_append_left _ (List.mem_append_right _ (List.mem_of_getElem? (i := 1) rfl))))) (am_cons (List.mem_cons_of_mem _ (List.mem_append_left _ (List.mem_append_left _ (List.mem_append_right _ (List.mem_of_getElem? (i := 2) rfl))))) (am_cons (List.mem_cons_of_mem _ (List.mem_append_left _ (List.mem_append_left _ (List.mem_append_right _ (List.mem_of_getElem? (i := 3) rfl))))) (am_cons (List.mem_cons_of_mem _ (List.mem_append_left _ (List.mem_append_left _ (List.mem_append_right _ (List.mem_of_getElem? (i := 4) rfl))))) (am_cons (List.mem_cons_of_mem _ (List.mem_append_left _ (List.mem_append_left _ (List.mem_append_left _ (List.mem_of_getElem? (i := 14) rfl))))) (am_cons (List.mem_cons_of_mem _ (List.mem_append_left _ (List.mem_append_left _ (List.mem_append_right _ (List.mem_of_getElem? (i := 5) rfl))))) (am_cons (List.mem_cons_of_mem _ (List.mem_append_left _ (List.mem_append_left _ (List.mem_append_left _ (List.mem_of_getElem? (i := 4) rfl))))) (am_cons (List.mem_cons_of_mem _ (List.mem_append_left _ (List.mem_append_left _ (List.mem_append_left _ (List.mem_of_getElem? (i := 5) rfl))))) (am_cons (List.mem_cons_of_mem _ (List.mem_append_left _ (List.mem_append_left _ (List.mem_append_right _ (List.mem_of_getElem? (i := 6) rfl))))) (am_cons (List.mem_cons_of_mem _ (List.mem_append_left _ (List.mem_append_left _ (List.mem_append_right _ (List.mem_of_getElem? (i := 7) rfl))))) (am_cons (List.mem_cons_of_mem _ (List.mem_append_left _ (List.mem_append_left _ (List.mem_append_right _ (List.mem_of_getElem? (i := 8) rfl))))) am_nil)))))))))))))))))))))))) (am_cons (List.mem_cons_of_mem _ (List.mem_append_left _ (List.mem_append_left _ (List.mem_append_right _ (List.mem_of_getElem? (i := 9) rfl))))) (am_cons (List.mem_cons_of_mem _ (List.mem_append_left _ (List.mem_append_left _ (List.mem_append_right _ (List.mem_of_getElem? (i := 10) rfl))))) (am_cons (List.mem_cons_of_mem _ (List.mem_append_left _ (List.mem_append_left _ (List.mem_append_right _ (List.mem_of_getElem? (i := 11) rfl))))) (am_cons (List.mem_cons_of_mem _ (List.mem_append_left _ (List.mem_append_left _ (List.mem_append_right _ (List.mem_of_getElem? (i := 12) rfl))))) (am_cons (List.mem_cons_of_mem _ (List.mem_append_left _ (List.mem_append_left _ (List.mem_append_right _ (List.mem_of_getElem? (i := 13) rfl))))) (am_cons (List.mem_cons_of_mem _ (List.mem_append_left _ (List.mem_append_left _ (List.mem_append_right _ (List.mem_of_getElem? (i := 14) rfl))))) (am_cons (List.mem_cons_of_mem _ (List.mem_append_left _ (List.mem_append_left _ (List.mem_append_right _ (List.mem_of_getElem? (i := 15) rfl))))) (am_cons (List.mem_cons_of_mem _ (List.mem_append_left _ (List.mem_append_left _ (List.mem_append_right _ (List.mem_of_getElem? (i := 16) rfl))))) (am_cons (List.mem_cons_of_mem _ (List.mem_append_left _ (List.mem_append_left _ (List.mem_append_right _ (List.mem_of_getElem? (i := 17) rfl))))) am_nil)))))))))) (fun _ h => List.mem_cons_of_mem _ (List.mem_append_right _ (h)))) (fun _ h => List.mem_cons_of_mem _ (List.mem_append_left _ (List.mem_append_right _ (h)))))) (by decide +kernel)
set_option maxRecDepth 20000 in
theorem gX3_init_X3_ownPart : GoodIn wsX3_init (wsV RX3 30 RX3 yX3_ownPart wsX3_ownPart) := goodIn_app (goodIn_sub (am_cons (List.mem_cons_of_mem _ (List.mem_append_left _ (List.mem_append_left _ (List.mem_append_left _ (List.mem_of_getElem? (i := 11) rfl))))) (am_cons (List.mem_cons_of_mem _ (List.mem_append_left _ (List.mem_append_left _ (List.mem_append_left _ (List.mem_of_getElem? (i := 12) rfl))))) (am_cons (List.mem_cons_of_mem _ (List.mem_append_left _ (List.mem_append_left _ (List.mem_append_left _ (List.mem_of_getElem? (i := 13) rfl))))) (am_cons (List.mem_cons_of_mem _ (List.mem_append_left _ (List.mem_append_left _ (List.mem_append_left _ (List.mem_of_getElem? (i := 14) rfl))))) am_nil)))) (by decide +kernel)) ggX3_init_X3_ownPart
theorem dX3_init_0 : decode cX3_init 0 = .ok (.aload_n 0, 1) := by decide +kernel
theorem dX3_init_1 : decode cX3_init 1 = .ok (.invokespecial 3, 3) := by decide +kernel
theorem dX3_init_4 : decode cX3_init 4 = .ok (.aload_n 0, 1) := by decide +kernel
theorem dX3_init_5 : decode cX3_init 5 = .ok (.iconst 4, 1) := by decide +kernel
theorem dX3_init_6 : decode cX3_init 6 = .ok (.newarray .long, 2) := by decide +kernel
theorem dX3_init_8 : decode cX3_init 8 = .ok (.putfield 9, 3) := by decide +kernel
theorem dX3_init_11 : decode cX3_init 11 = .ok (.aload_n 0, 1) := by decide +kernel
theorem dX3_init_12 : decode cX3_init 12 = .ok (.iconst 4, 1) := by decide +kernel
theorem dX3_init_13 : decode cX3_init 13 = .ok (.newarray .long, 2) := by decide +kernel
theorem dX3_init_15 : decode cX3_init 15 = .ok (.putfield 15, 3) := by decide +kernel
theorem dX3_init_18 : decode cX3_init 18 = .ok (.aload_n 0, 1) := by decide +kernel
theorem dX3_init_19 : decode cX3_init 19 = .ok (.iconst 4, 1) := by decide +kernel
theorem dX3_init_20 : decode cX3_init 20 = .ok (.anewarray 18, 3) := by decide +kernel
theorem dX3_init_23 : decode cX3_init 23 = .ok (.putfield 20, 3) := by decide +kernel
theorem dX3_init_26 : decode cX3_init 26 = .ok (.aload_n 0, 1) := by decide +kernel
theorem dX3_init_27 : decode cX3_init 27 = .ok (.iconst 4, 1) := by decide +kernel
theorem dX3_init_28 : decode cX3_init 28 = .ok (.anewarray 18, 3) := by decide +kernel
theorem dX3_init_31 : decode cX3_init 31 = .ok (.putfield 24, 3) := by decide +kernel
theorem dX3_init_34 : decode cX3_init 34 = .ok (.aload_n 0, 1) := by decide +kernel
theorem dX3_init_35 : decode cX3_init 35 = .ok (.bipush 32, 2) := by decide +kernel
theorem dX3_init_37 : decode cX3_init 37 = .ok (.anewarray 18, 3) := by decide +kernel
theorem dX3_init_40 : decode cX3_init 40 = .ok (.putfield 27, 3) := by decide +kernel
theorem dX3_init_43 : decode cX3_init 43 = .ok (.aload_n 0, 1) := by decide +kernel
theorem dX3_init_44 : decode cX3_init 44 = .ok (.getfield 9, 3) := by decide +kernel
theorem dX3_init_47 : decode cX3_init 47 = .ok (.iconst 0, 1) := by decide +kernel
theorem dX3_init_48 : decode cX3_init 48 = .ok (.lconst 1, 1) := by decide +kernel
theorem dX3_init_49 : decode cX3_init 49 = .ok (.lastore, 1) := by decide +kernel
theorem dX3_init_50 : decode cX3_init 50 = .ok (.aload_n 0, 1) := by decide +kernel
theorem dX3_init_51 : decode cX3_init 51 = .ok (.getfield 15, 3) := by decide +kernel
theorem dX3_init_54 : decode cX3_init 54 = .ok (.iconst 0, 1) := by decide +kernel
theorem dX3_init_55 : decode cX3_init 55 = .ok (.lconst 1, 1) := by decide +kernel
theorem dX3_init_56 : decode cX3_init 56 = .ok (.lastore, 1) := by decide +kernel
theorem dX3_init_57 : decode cX3_init 57 = .ok (.aload_n 0, 1) := by decide +kernel
theorem dX3_init_58 : decode cX3_init 58 = .ok (.getfield 20, 3) := by decide +kernel
theorem dX3_init_61 : decode cX3_init 61 = .ok (.iconst 0, 1) := by decide +kernel
theorem dX3_init_62 : decode cX3_init 62 = .ok (.aload_n 0, 1) := by decide +kernel
theorem dX3_init_63 : decode cX3_init 63 = .ok (.iconst 0, 1) := by decide +kernel
theorem dX3_init_64 : decode cX3_init 64 = .ok (.invokevirtual 30, 3) := by decide +kernel
theorem dX3_init_67 : decode cX3_init 67 = .ok (.aastore, 1) := by decide +kernel
theorem dX3_init_68 : decode cX3_init 68 = .ok (.aload_n 0, 1) := by decide +kernel
theorem dX3_init_69 : decode cX3_init 69 = .ok (.iconst 1, 1) := by decide +kernel
theorem dX3_init_70 : decode cX3_init 70 = .ok (.putfield 34, 3) := by decide +kernel
theorem dX3_init_73 : decode cX3_init 73 = .ok (.return_, 1) := by decide +kernel
set_option maxRecDepth 20000 in
theorem ggX3_addShaft_X3_hasShaft : GoodIn wsX3_addShaft wsX3_hasShaft := goodIn_sub (am_cons (List.mem_cons_of_mem _ (List.mem_append_left _ (List.mem_append_left _ (List.mem_append_left _ (List.mem_of_getElem? (i := 9) rfl))))) (am_app (am_cons (List.mem_cons_of_mem _ (List.mem_append_left _ (List.mem_append_left _ (List.mem_append_left _ (List.mem_of_getElem? (i := 0) rfl))))) (am_cons (List.mem_cons_of_mem _ (List.mem_append_left _ (List.mem_append_left _ (List.mem_append_left _ (List.mem_of_getElem? (i := 10) rfl))))) (am_cons (List.mem_cons_of_mem _ (List.mem_append_left _ (List.mem_append_left _ (List.mem_append_left _ (List.mem_of_getElem? (i := 11) rfl))))) (am_cons (List.mem_cons_of_mem _ (List.mem_append_left _ (List.mem_append_left _ (List.mem_append_left _ (List.mem_of_getElem? (i := 12) rfl))))) am_nil)))) (fun _ h => List.mem_cons_of_mem _ (List.mem_append_left _ (List.mem_append_right _ (h)))))) (by decide +kernel)
set_option maxRecDepth 20000 in
theorem gX3_addShaft_X3_hasShaft : GoodIn wsX3_addShaft (wsV RX3 38 RX3 yX3_hasShaft wsX3_hasShaft) := goodIn_app (goodIn_sub (am_cons (List.mem_cons_of_mem _ (List.mem_append_left _ (List.mem_append_left _ (List.mem_append_left _ (List.mem_of_getElem? (i := 5) rfl))))) (am_cons (List.mem_cons_of_mem _ (List.mem_append_left _ (List.mem_append_left _ (List.mem_append_left _ (List.mem_of_getElem? (i := 6) rfl))))) (am_cons (List.mem_cons_of_mem _ (List.mem_append_left _ (List.mem_append_left _ (List.mem_append_left _ (List.mem_of_getElem? (i := 7) rfl))))) (am_cons (List.mem_cons_of_mem _ (List.mem_append_left _ (List.mem_append_left _ (List.mem_append_left _ (List.mem_of_getElem? (i := 8) rfl))))) am_nil)))) (by decide +kernel)) ggX3_addShaft_X3_hasShaft
set_option maxRecDepth 20000 in
theorem ggX3_addShaft_X8_within : GoodIn wsX3_addShaft wsX8_within := goodIn_sub (am_cons (List.mem_cons_of_mem _ (List.mem_append_left _ (List.mem_append_left _ (List.mem_append_left _ (List.mem_of_getElem? (i := 12) rfl))))) (am_nil)) (by decide +kernel)
set_option maxRecDepth 20000 in
theorem gX3_addShaft_X8_within_n42 : GoodIn wsX3_addShaft (wsX8_within) := ggX3_addShaft_X8_within
set_option maxRecDepth 20000 in
theorem ggX3_addShaft_X8_commonDivisor : GoodIn wsX3_addShaft wsX8_commonDivisor := goodIn_sub (am_cons (List.mem_cons_of_mem _ (List.mem_append_left _ (List.mem_append_left _ (List.mem_append_left _ (List.mem_of_getElem? (i := 14) rfl))))) (am_cons (List.mem_cons_of_mem _ (List.mem_append_left _ (List.mem_append_left _ (List.mem_append_left _ (List.mem_of_getElem? (i := 15) rfl))))) (am_cons (List.mem_cons_of_mem _ (List.mem_append_left _ (List.mem_append_left _ (List.mem_append_left _ (List.mem_of_getElem? (i := 16) rfl))))) (am_cons (List.mem_cons_of_mem _ (List.mem_append_left _ (List.mem_append_left _ (List.mem_append_left _ (List.mem_of_getElem? (i := 17) rfl))))) (am_cons (List.mem_cons_of_mem _ (List.mem_append_left _ (List.mem_append_left _ (List.mem_append_left _ (List.mem_of_getElem? (i := 18) rfl))))) am_nil))))) (by decide +kernel)
set_option maxRecDepth 20000 in
theorem gX3_addShaft_X8_commonDivisor_n46 : GoodIn wsX3_addShaft (wsX8_commonDivisor) := ggX3_addShaft_X8_commonDivisor
set_option maxRecDepth 20000 in
theorem ggX3_addShaft_X3_ownPart : GoodIn wsX3_addShaft wsX3_ownPart := goodIn_sub (am_cons (List.mem_cons_of_mem _ (List.mem_append_left _ (List.mem_append_left _ (List.mem_append_left _ (List.mem_of_getElem? (i := 22) rfl))))) (am_app (am_app (am_app (am_cons (List.mem_cons_of_mem _ (List.mem_append_left _ (List.mem_append_left _ (List.mem_append_left _ (List.mem_of_getElem? (i := 23) rfl))))) (am_cons (List.mem_cons_of_mem _ (List.mem_append_left _ (List.mem_append_left _ (List.mem_append_right _ (List.mem_append_left _ (List.mem_of_getElem? (i := 0) rfl)))))) (am_cons (List.mem_cons_of_mem _ (List.mem_append_left _ (List.mem_append_left _ (List.mem_append_right _ (List.mem_append_left _ (List.mem_of_getElem? (i := 1) rfl)))))) (am_cons (List.mem_cons_of_mem _ (List.mem_append_left _ (List.mem_append_left _ (List.mem_append_right _ (List.mem_append_left _ (List.mem_of_getElem? (i := 2) rfl)))))) (am_cons (List.mem_cons_of_mem _ (List.mem_append_left _ (List.mem_append_left _ (List.mem_append_right _ (List.mem_append_left _ (List.mem_of_getElem? (i := 3) rfl)))))) (am_cons (List.mem_cons_of_mem _ (List.mem_append_left _ (List.mem_append_left _ (List.mem_append_right _ (List.mem_append_left _ (List.mem_of_getElem? (i := 4) rfl)))))) (am_cons (List.mem_cons_of_mem _ (List.mem_append_left _ (List.mem_append_left _ (List.mem_append_right _ (List.mem_append_left _ (List.mem_of_getElem? (i := 5) rfl)))))) (am_cons (List.mem_cons_of_mem _ (List.mem_append_left _ (List.mem_append_left _ (List.mem_append_right _ (List.mem_append_left _ (List.mem_of_getElem? (i := 6) rfl)))))) (am_cons (List.mem_cons_of_mem _ (List.mem_append_left _ (List.mem_append_left _ (List.mem_append_right _ (List.mem_append_left _ (List.mem_of_getElem? (i := 7) rfl)))))) (am_cons (List.mem_cons_of_mem _ (List.mem_append_left _ (List.mem_append_left _ (List.mem_append_right _ (List.mem_append_left _ (List.mem_of_getElem? (i := 8) rfl)))))) (am_cons (List.mem_cons_of_mem _ (List.mem_append_left _ (List.mem_append_left _ (List.mem_append_right _ (List.mem_append_left _ (List.mem_of_getElem? (i := 9) rfl)))))) (am_cons (List.mem_cons_of_mem _ (List.mem_append_left _ (List.mem_append_left _ (List.mem_append_right _ (List.mem_append_left _ (List.mem_of_getElem? (i := 10) rfl)))))) (am_cons (List.mem_cons_of_mem _ (List.mem_append_left _ (List.mem_append_left _ (List.mem_append_right _ (List.mem_append_left _ (List.mem_of_getElem? (i := 11) rfl)))))) (am_cons (List.mem_cons_of_mem _ (List.mem_append_left _ (List.mem_append_left _ (List.mem_append_right _ (List.mem_append_left _ (List.mem_of_getElem? (i := 12) rfl)))))) (am_cons (List.mem_cons_of_mem _ (List.mem_append_left _ (List.mem_append_left _ (List.mem_append_right _ (List.mem_append_left _ (List.mem_of_getElem? (i := 13) rfl)))))) (am_cons (List.mem_cons_of_mem _ (List.mem_append_left _ (List.mem_append_left _ (List.mem_append_right _ (List.mem_append_left _ (List.mem_of_getElem? (i := 14) rfl)))))) (am_cons (List.mem_cons_of_mem _ (List.mem_append_left _ (List.mem_append_left _ (List.mem_append_right _ (List.mem_append_left _ (List.mem_of_getElem? (i := 15) rfl)))))) (am_cons (List.mem_cons_of_mem _ (List.mem_append_left _ (List.mem_append_left _ (List.mem_append_left _ (List.mem_of_getElem? (i := 8) rfl))))) (am_cons (List.mem_cons_of_mem _ (List.mem_append_left _ (List.mem_append_left _ (List.mem_append_right _ (List.mem_append_left _ (List.mem_of_getElem? (i := 16) rfl)))))) (am_cons (List.mem_cons_of_mem _ (List.mem_append_left _ (List.mem_append_left _ (List.mem_append_left _ (List.mem_of_getElem? (i := 1) rfl))))) (am_cons (List.mem_cons_of_mem _ (List.mem_append_left _ (List.mem_append_left _ (List.mem_append_left _ (List.mem_of_getElem? (i := 2) rfl))))) (am_cons (List.mem_cons_of_mem _ (List.mem_append_left _ (List.mem_append_left _ (List.mem_append_right _ (List.mem_append_left _ (List.mem_of_getElem? (i := 17) rfl)))))) (am_cons (List.mem_cons_of_mem _ (List.mem_append_left _ (List.mem_append_left _ (List.mem_append_right _ (List.mem_append_left _ (List.mem_of_getElem? (i := 18) rfl)))))) (am_cons (List.mem_cons_of_mem _ (List.mem_append_left _ (List.mem_append_left _ (List.mem_append_right _ (List.mem_append_left _ (List.mem_of_getElem? (i := 19) rfl)))))) am_nil)))))))))))))))))))))))) (am_cons (List.mem_cons_of_mem _ (List.mem_append_left _ (List.mem_append_left _ (List.mem_append_right _ (List.mem_append_left _ (List.mem_of_getElem? (i := 20) rfl)))))) (am_cons (List.mem_cons_of_mem _ (List.mem_append_left _ (List.mem_append_left _ (List.mem_append_right _ (List.mem_append_left _ (List.mem_of_getElem? (i := 21) rfl)))))) (am_cons (List.mem_cons_of_mem _ (List.mem_append_left _ (List.mem_append_left _ (List.mem_append_left _ (List.mem_of_getElem? (i := 13) rfl))))) (am_cons (List.mem_cons_of_mem _ (List.mem_append_left _ (List.mem_append_left _ (List.mem_append_left _ (List.mem_of_getElem? (i := 11) rfl))))) (am_cons (List.mem_cons_of_mem _ (List.mem_append_left _ (List.mem_append_left _ (List.mem_append_left _ (List.mem_of_getElem? (i := 14) rfl))))) (am_cons (List.mem_cons_of_mem _ (List.mem_append_left _ (List.mem_append_left _ (List.mem_append_left _ (List.mem_of_getElem? (i := 15) rfl))))) (am_cons (List.mem_cons_of_mem _ (List.mem_append_left _ (List.mem_append_left _ (List.mem_append_left _ (List.mem_of_getElem? (i := 16) rfl))))) (am_cons (List.mem_cons_of_mem _ (List.mem_append_left _ (List.mem_append_left _ (List.mem_append_left _ (List.mem_of_getElem? (i := 17) rfl))))) (am_cons (List.mem_cons_of_mem _ (List.mem_append_left _ (List.mem_append_left _ (List.mem_append_left _ (List.mem_of_getElem? (i := 18) rfl))))) am_nil)))))))))) (fun _ h => List.mem_cons_of_mem _ (List.mem_append_right _ (h)))) (fun _ h => List.mem_cons_of_mem _ (List.mem_append_left _ (List.mem_append_right _ (h)))))) (by decide +kernel)
set_option maxRecDepth 20000 in
theorem gX3_addShaft_X3_ownPart : GoodIn wsX3_addShaft (wsV RX3 30 RX3 yX3_ownPart wsX3_ownPart) := goodIn_app (goodIn_sub (am_cons (List.mem_cons_of_mem _ (List.mem_append_left _ (List.mem_append_left _ (List.mem_append_left _ (List.mem_of_getElem? (i := 19) rfl))))) (am_cons (List.mem_cons_of_mem _ (List.mem_append_left _ (List.mem_append_left _ (List.mem_append_left _ (List.mem_of_getElem? (i := 20) rfl))))) (am_cons (List.mem_cons_of_mem _ (List.mem_append_left _ (List.mem_append_left _ (List.mem_append_left _ (List.mem_of_getElem? (i := 21) rfl))))) (am_cons (List.mem_cons_of_mem _ (List.mem_append_left _ (List.mem_append_left _ (List.mem_append_left _ (List.mem_of_getElem? (i := 8) rfl))))) am_nil)))) (by decide +kernel)) ggX3_addShaft_X3_ownPart
set_option maxRecDepth 20000 in
theorem ggX3_addShaft_X3_gearPart : GoodIn wsX3_addShaft wsX3_gearPart := goodIn_sub (am_cons (List.mem_cons_of_mem _ (List.mem_append_left _ (List.mem_append_left _ (List.mem_append_right _ (List.mem_append_right _ (List.mem_of_getElem? (i := 1) rfl)))))) (am_app (am_app (am_app (am_cons (List.mem_cons_of_mem _ (List.mem_append_left _ (List.mem_append_left _ (List.mem_append_left _ (List.mem_of_getElem? (i := 23) rfl))))) (am_cons (List.mem_cons_of_mem _ (List.mem_append_left _ (List.mem_append_left _ (List.mem_append_right _ (List.mem_append_left _ (List.mem_of_getElem? (i := 0) rfl)))))) (am_cons (List.mem_cons_of_mem _ (List.mem_append_left _ (List.mem_append_left _ (List.mem_append_right _ (List.mem_append_left _ (List.mem_of_getElem? (i := 1) rfl)))))) (am_cons (List.mem_cons_of_mem _ (List.mem_append_left _ (List.mem_append_left _ (List.mem_append_right _ (List.mem_append_left _ (List.mem_of_getElem? (i := 2) rfl)))))) (am_cons (List.mem_cons_of_mem _ (List.mem_append_left _ (List.mem_append_left _ (List.mem_append_right _ (List.mem_append_left _ (List.mem_of_getElem? (i := 3) rfl)))))) (am_cons (List.mem_cons_of_mem _ (List.mem_append_left _ (List.mem_append_left _ (List.mem_append_right _ (List.mem_append_left _ (List.mem_of_getElem? (i := 4) rfl)))))) (am_cons (List.mem_cons_of_mem _ (List.mem_append_left _ (List.mem_append_left _ (List.mem_append_right _ (List.mem_append_left _ (List.mem_of_getElem? (i := 5) rfl)))))) (am_cons (List.mem_cons_of_mem _ (List.mem_append_left _ (List.mem_append_left _ (List.mem_append_right _ (List.mem_append_left _ (List.mem_of_getElem? (i := 6) rfl)))))) (am_cons (List.mem_cons_of_mem _ (List.mem_append_left _ (List.mem_append_left _ (List.mem_append_right _ (List.mem_append_left _ (List.mem_of_getElem? (i := 7) rfl)))))) (am_cons (List.mem_cons_of_mem _ (List.mem_append_left _ (List.mem_append_left _ (List.mem_append_right _ (List.mem_append_left _ (List.mem_of_getElem? (i := 8) rfl)))))) (am_cons (List.mem_cons_of_mem _ (List.mem_append_left _ (List.mem_append_left _ (List.mem_append_right _ (List.mem_append_left _ (List.mem_of_getElem? (i := 9) rfl)))))) (am_cons (List.mem_cons_of_mem _ (List.mem_append_left _ (List.mem_append_left _ (List.mem_append_right _ (List.mem_append_left _ (List.mem_of_getElem? (i := 10) rfl)))))) (am_cons (List.mem_cons_of_mem _ (List.mem_append_left _ (List.mem_append_left _ (List.mem_append_right _ (List.mem_append_left _ (List.mem_of_getElem? (i := 11) rfl)))))) (am_cons (List.mem_cons_of_mem _ (List.mem_append_left _ (List.mem_append_left _ (List.mem_append_right _ (List.mem_append_left _ (List.mem_of_getElem? (i := 12) rfl)))))) (am_cons (List.mem_cons_of_mem _ (List.mem_append_left _ (List.mem_append_left _ (List.mem_append_right _ (List.mem_append_left _ (List.mem_of_getElem? (i := 13) rfl)))))) (am_cons (List.mem_cons_of_mem _ (List.mem_append_left _ (List.mem_append_left _ (List.mem_append_right _ (List.mem_append_left _ (List.mem_of_getElem? (i := 14) rfl)))))) (am_cons (List.mem_cons_of_mem _ (List.mem_append_left _ (List.mem_append_left _ (List.mem_append_right _ (List.mem_append_left _ (List.mem_of_getElem? (i := 15) rfl)))))) (am_cons (List.mem_cons_of_mem _ (List.mem_append_left _ (List.mem_append_left _ (List.mem_append_left _ (List.mem_of_getElem? (i := 8) rfl))))) (am_cons (List.mem_cons_of_mem _ (List.mem_append_left _ (List.mem_append_left _ (List.mem_append_right _ (List.mem_append_left _ (List.mem_of_getElem? (i := 16) rfl)))))) (am_cons (List.mem_cons_of_mem _ (List.mem_append_left _ (List.mem_append_left _ (List.mem_append_left _ (List.mem_of_getElem? (i := 1) rfl))))) (am_cons (List.mem_cons_of_mem _ (List.mem_append_left _ (List.mem_append_left _ (List.mem_append_left _ (List.mem_of_getElem? (i := 2) rfl))))) (am_cons (List.mem_cons_of_mem _ (List.mem_append_left _ (List.mem_append_left _ (List.mem_append_right _ (List.mem_append_left _ (List.mem_of_getElem? (i := 17) rfl)))))) (am_cons (List.mem_cons_of_mem _ (List.mem_append_left _ (List.mem_append_left _ (List.mem_append_right _ (List.mem_append_left _ (List.mem_of_getElem? (i := 18) rfl)))))) (am_cons (List.mem_cons_of_mem _ (List.mem_append_left _ (List.mem_append_left _ (List.mem_append_right _ (List.mem_append_left _ (List.mem_of_getElem? (i := 19) rfl)))))) am_nil)))))))))))))))))))))))) (am_cons (List.mem_cons_of_mem _ (List.mem_append_left _ (List.mem_append_left _ (List.mem_append_right _ (List.mem_append_left _ (List.mem_of_getElem? (i := 20) rfl)))))) (am_cons (List.mem_cons_of_mem _ (List.mem_append_left _ (List.mem_append_left _ (List.mem_append_right _ (List.mem_append_left _ (List.mem_of_getElem? (i := 21) rfl)))))) (am_cons (List.mem_cons_of_mem _ (List.mem_append_left _ (List.mem_append_left _ (List.mem_append_left _ (List.mem_of_getElem? (i := 13) rfl))))) (am_cons (List.mem_cons_of_mem _ (List.mem_append_left _ (List.mem_append_left _ (List.mem_append_left _ (List.mem_of_getElem? (i := 11) rfl))))) (am_cons (List.mem_cons_of_mem _ (List.mem_append_left _ (List.mem_append_left _ (List.mem_append_left _ (List.mem_of_getElem? (i := 14) rfl))))) (am_cons (List.mem_cons_of_mem _ (List.mem_append_left _ (List.mem_append_left _ (List.mem_append_left _ (List.mem_of_getElem? (i := 15) rfl))))) (am_cons (List.mem_cons_of_mem _ (List.mem_append_left _ (List.mem_append_left _ (List.mem_append_left _ (List.mem_of_getElem? (i := 16) rfl))))) (am_cons (List.mem_cons_of_mem _ (List.mem_append_left _ (List.mem_append_left _ (List.mem_append_left _ (List.mem_of_getElem? (i := 17) rfl))))) (am_cons (List.mem_cons_of_mem _ (List.mem_append_left _ (List.mem_append_left _ (List.mem_append_left _ (List.mem_of_getElem? (i := 18) rfl))))) am_nil)))))))))) (fun _ h => List.mem_cons_of_mem _ (List.mem_append_right _ (h)))) (fun _ h => List.mem_cons_of_mem _ (List.mem_append_left _ (List.mem_append_right _ (h)))))) (by decide +kernel)
set_option maxRecDepth 20000 in
theorem gX3_addShaft_X3_gearPart : GoodIn wsX3_addShaft (wsV RX3 50 RX3 yX3_gearPart wsX3_gearPart) := goodIn_app (goodIn_sub (am_cons (List.mem_cons_of_mem _ (List.mem_append_left _ (List.mem_append_left _ (List.mem_append_right _ (List.mem_append_left _ (List.mem_of_getElem? (i := 22) rfl)))))) (am_cons (List.mem_cons_of_mem _ (List.mem_append_left _ (List.mem_append_left _ (List.mem_append_right _ (List.mem_append_left _ (List.mem_of_getElem? (i := 23) rfl)))))) (am_cons (List.mem_cons_of_mem _ (List.mem_append_left _ (List.mem_append_left _ (List.mem_append_right _ (List.mem_append_right _ (List.mem_of_getElem? (i := 0) rfl)))))) (am_cons (List.mem_cons_of_mem _ (List.mem_append_left _ (List.mem_append_left _ (List.mem_append_left _ (List.mem_of_getElem? (i := 8) rfl))))) am_nil)))) (by decide +kernel)) ggX3_addShaft_X3_gearPart
theorem dX3_addShaft_0 : decode cX3_addShaft 0 = .ok (.aload_n 0, 1) := by decide +kernel
theorem dX3_addShaft_1 : decode cX3_addShaft 1 = .ok (.iload_n 1, 1) := by decide +kernel
theorem dX3_addShaft_2 : decode cX3_addShaft 2 = .ok (.invokevirtual 38, 3) := by decide +kernel
theorem dX3_addShaft_5 : decode cX3_addShaft 5 = .ok (.ifCond .eq 25, 3) := by decide +kernel
theorem dX3_addShaft_8 : decode cX3_addShaft 8 = .ok (.iload_n 2, 1) := by decide +kernel
theorem dX3_addShaft_9 : decode cX3_addShaft 9 = .ok (.iconst 5, 1) := by decide +kernel
theorem dX3_addShaft_10 : decode cX3_addShaft 10 = .ok (.sipush 200, 3) := by decide +kernel
theorem dX3_addShaft_13 : decode cX3_addShaft 13 = .ok (.invokestatic 42, 3) := by decide +kernel
theorem dX3_addShaft_16 : decode cX3_addShaft 16 = .ok (.ifCond .eq 14, 3) := by decide +kernel
theorem dX3_addShaft_19 : decode cX3_addShaft 19 = .ok (.iload_n 3, 1) := by decide +kernel
theorem dX3_addShaft_20 : decode cX3_addShaft 20 = .ok (.iconst 5, 1) := by decide +kernel
theorem dX3_addShaft_21 : decode cX3_addShaft 21 = .ok (.sipush 200, 3) := by decide +kernel
theorem dX3_addShaft_24 : decode cX3_addShaft 24 = .ok (.invokestatic 42, 3) := by decide +kernel
theorem dX3_addShaft_27 : decode cX3_addShaft 27 = .ok (.ifCond .ne 5, 3) := by decide +kernel
theorem dX3_addShaft_30 : decode cX3_addShaft 30 = .ok (.iconst (-1), 1) := by decide +kernel
theorem dX3_addShaft_31 : decode cX3_addShaft 31 = .ok (.ireturn, 1) := by decide +kernel
theorem dX3_addShaft_32 : decode cX3_addShaft 32 = .ok (.aload_n 0, 1) := by decide +kernel
theorem dX3_addShaft_33 : decode cX3_addShaft 33 = .ok (.getfield 34, 3) := by decide +kernel
theorem dX3_addShaft_36 : decode cX3_addShaft 36 = .ok (.iconst 4, 1) := by decide +kernel
theorem dX3_addShaft_37 : decode cX3_addShaft 37 = .ok (.if_icmp .lt 6, 3) := by decide +kernel
theorem dX3_addShaft_40 : decode cX3_addShaft 40 = .ok (.bipush (-3), 2) := by decide +kernel
theorem dX3_addShaft_42 : decode cX3_addShaft 42 = .ok (.ireturn, 1) := by decide +kernel
theorem dX3_addShaft_43 : decode cX3_addShaft 43 = .ok (.aload_n 0, 1) := by decide +kernel
theorem dX3_addShaft_44 : decode cX3_addShaft 44 = .ok (.getfield 34, 3) := by decide +kernel
theorem dX3_addShaft_47 : decode cX3_addShaft 47 = .ok (.istore 4, 2) := by decide +kernel
theorem dX3_addShaft_49 : decode cX3_addShaft 49 = .ok (.aload_n 0, 1) := by decide +kernel
theorem dX3_addShaft_50 : decode cX3_addShaft 50 = .ok (.getfield 9, 3) := by decide +kernel
theorem dX3_addShaft_53 : decode cX3_addShaft 53 = .ok (.iload_n 1, 1) := by decide +kernel
theorem dX3_addShaft_54 : decode cX3_addShaft 54 = .ok (.laload, 1) := by decide +kernel
theorem dX3_addShaft_55 : decode cX3_addShaft 55 = .ok (.iload_n 2, 1) := by decide +kernel
theorem dX3_addShaft_56 : decode cX3_addShaft 56 = .ok (.i2l, 1) := by decide +kernel
theorem dX3_addShaft_57 : decode cX3_addShaft 57 = .ok (.lmul, 1) := by decide +kernel
theorem dX3_addShaft_58 : decode cX3_addShaft 58 = .ok (.lstore 5, 2) := by decide +kernel
theorem dX3_addShaft_60 : decode cX3_addShaft 60 = .ok (.aload_n 0, 1) := by decide +kernel
theorem dX3_addShaft_61 : decode cX3_addShaft 61 = .ok (.getfield 15, 3) := by decide +kernel
theorem dX3_addShaft_64 : decode cX3_addShaft 64 = .ok (.iload_n 1, 1) := by decide +kernel
theorem dX3_addShaft_65 : decode cX3_addShaft 65 = .ok (.laload, 1) := by decide +kernel
theorem dX3_addShaft_66 : decode cX3_addShaft 66 = .ok (.iload_n 3, 1) := by decide +kernel
theorem dX3_addShaft_67 : decode cX3_addShaft 67 = .ok (.i2l, 1) := by decide +kernel
theorem dX3_addShaft_68 : decode cX3_addShaft 68 = .ok (.lmul, 1) := by decide +kernel
theorem dX3_addShaft_69 : decode cX3_addShaft 69 = .ok (.lstore 7, 2) := by decide +kernel
theorem dX3_addShaft_71 : decode cX3_addShaft 71 = .ok (.lload 5, 2) := by decide +kernel
theorem dX3_addShaft_73 : decode cX3_addShaft 73 = .ok (.lload 7, 2) := by decide +kernel
theorem dX3_addShaft_75 : decode cX3_addShaft 75 = .ok (.invokestatic 46, 3) := by decide +kernel
theorem dX3_addShaft_78 : decode cX3_addShaft 78 = .ok (.lstore 9, 2) := by decide +kernel
theorem dX3_addShaft_80 : decode cX3_addShaft 80 = .ok (.aload_n 0, 1) := by decide +kernel
theorem dX3_addShaft_81 : decode cX3_addShaft 81 = .ok (.getfield 9, 3) := by decide +kernel
theorem dX3_addShaft_84 : decode cX3_addShaft 84 = .ok (.iload 4, 2) := by decide +kernel
theorem dX3_addShaft_86 : decode cX3_addShaft 86 = .ok (.lload 5, 2) := by decide +kernel
theorem dX3_addShaft_88 : decode cX3_addShaft 88 = .ok (.lload 9, 2) := by decide +kernel
theorem dX3_addShaft_90 : decode cX3_addShaft 90 = .ok (.ldiv, 1) := by decide +kernel
theorem dX3_addShaft_91 : decode cX3_addShaft 91 = .ok (.lastore, 1) := by decide +kernel
theorem dX3_addShaft_92 : decode cX3_addShaft 92 = .ok (.aload_n 0, 1) := by decide +kernel
theorem dX3_addShaft_93 : decode cX3_addShaft 93 = .ok (.getfield 15, 3) := by decide +kernel
theorem dX3_addShaft_96 : decode cX3_addShaft 96 = .ok (.iload 4, 2) := by decide +kernel
theorem dX3_addShaft_98 : decode cX3_addShaft 98 = .ok (.lload 7, 2) := by decide +kernel
theorem dX3_addShaft_100 : decode cX3_addShaft 100 = .ok (.lload 9, 2) := by decide +kernel
theorem dX3_addShaft_102 : decode cX3_addShaft 102 = .ok (.ldiv, 1) := by decide +kernel
theorem dX3_addShaft_103 : decode cX3_addShaft 103 = .ok (.lastore, 1) := by decide +kernel
theorem dX3_addShaft_104 : decode cX3_addShaft 104 = .ok (.aload_n 0, 1) := by decide +kernel
theorem dX3_addShaft_105 : decode cX3_addShaft 105 = .ok (.getfield 20, 3) := by decide +kernel
theorem dX3_addShaft_108 : decode cX3_addShaft 108 = .ok (.iload 4, 2) := by decide +kernel
theorem dX3_addShaft_110 : decode cX3_addShaft 110 = .ok (.aload_n 0, 1) := by decide +kernel
theorem dX3_addShaft_111 : decode cX3_addShaft 111 = .ok (.iload 4, 2) := by decide +kernel
theorem dX3_addShaft_113 : decode cX3_addShaft 113 = .ok (.invokevirtual 30, 3) := by decide +kernel
theorem dX3_addShaft_116 : decode cX3_addShaft 116 = .ok (.aastore, 1) := by decide +kernel
theorem dX3_addShaft_117 : decode cX3_addShaft 117 = .ok (.aload_n 0, 1) := by decide +kernel
theorem dX3_addShaft_118 : decode cX3_addShaft 118 = .ok (.getfield 24, 3) := by decide +kernel
theorem dX3_addShaft_121 : decode cX3_addShaft 121 = .ok (.iload 4, 2) := by decide +kernel
theorem dX3_addShaft_123 : decode cX3_addShaft 123 = .ok (.iconst 1, 1) := by decide +kernel
theorem dX3_addShaft_124 : decode cX3_addShaft 124 = .ok (.isub, 1) := by decide +kernel
theorem dX3_addShaft_125 : decode cX3_addShaft 125 = .ok (.aload_n 0, 1) := by decide +kernel
theorem dX3_addShaft_126 : decode cX3_addShaft 126 = .ok (.iload 4, 2) := by decide +kernel
theorem dX3_addShaft_128 : decode cX3_addShaft 128 = .ok (.iload_n 3, 1) := by decide +kernel
theorem dX3_addShaft_129 : decode cX3_addShaft 129 = .ok (.invokevirtual 50, 3) := by decide +kernel
theorem dX3_addShaft_132 : decode cX3_addShaft 132 = .ok (.aastore, 1) := by decide +kernel
theorem dX3_addShaft_133 : decode cX3_addShaft 133 = .ok (.aload_n 0, 1) := by decide +kernel
theorem dX3_addShaft_134 : decode cX3_addShaft 134 = .ok (.dup, 1) := by decide +kernel
theorem dX3_addShaft_135 : decode cX3_addShaft 135 = .ok (.getfield 34, 3) := by decide +kernel
theorem dX3_addShaft_138 : decode cX3_addShaft 138 = .ok (.iconst 1, 1) := by decide +kernel
theorem dX3_addShaft_139 : decode cX3_addShaft 139 = .ok (.iadd, 1) := by decide +kernel
theorem dX3_addShaft_140 : decode cX3_addShaft 140 = .ok (.putfield 34, 3) := by decide +kernel
theorem dX3_addShaft_143 : decode cX3_addShaft 143 = .ok (.iload 4, 2) := by decide +kernel
theorem dX3_addShaft_145 : decode cX3_addShaft 145 = .ok (.ireturn, 1) := by decide +kernel
set_option maxRecDepth 20000 in
theorem ggX3_addRing_X3_hasShaft : GoodIn wsX3_addRing wsX3_hasShaft := goodIn_sub (am_cons (List.mem_cons_of_mem _ (List.mem_append_left _ (List.mem_append_left _ (List.mem_append_left _ (List.mem_of_getElem? (i := 6) rfl))))) (am_app (am_cons (List.mem_cons_of_mem _ (List.mem_append_left _ (List.mem_append_left _ (List.mem_append_left _ (List.mem_of_getElem? (i := 7) rfl))))) (am_cons (List.mem_cons_of_mem _ (List.mem_append_left _ (List.mem_append_left _ (List.mem_append_left _ (List.mem_of_getElem? (i := 8) rfl))))) (am_cons (List.mem_cons_of_mem _ (List.mem_append_left _ (List.mem_append_left _ (List.mem_append_left _ (List.mem_of_getElem? (i := 9) rfl))))) (am_cons (List.mem_cons_of_mem _ (List.mem_append_left _ (List.mem_append_left _ (List.mem_append_left _ (List.mem_of_getElem? (i := 10) rfl))))) am_nil)))) (fun _ h => List.mem_cons_of_mem _ (List.mem_append_left _ (List.mem_append_right _ (h)))))) (by decide +kernel)
set_option maxRecDepth 20000 in
theorem gX3_addRing_X3_hasShaft : GoodIn wsX3_addRing (wsV RX3 38 RX3 yX3_hasShaft wsX3_hasShaft) := goodIn_app (goodIn_sub (am_cons (List.mem_cons_of_mem _ (List.mem_append_left _ (List.mem_append_left _ (List.mem_append_left _ (List.mem_of_getElem? (i := 2) rfl))))) (am_cons (List.mem_cons_of_mem _ (List.mem_append_left _ (List.mem_append_left _ (List.mem_append_left _ (List.mem_of_getElem? (i := 3) rfl))))) (am_cons (List.mem_cons_of_mem _ (List.mem_append_left _ (List.mem_append_left _ (List.mem_append_left _ (List.mem_of_getElem? (i := 4) rfl))))) (am_cons (List.mem_cons_of_mem _ (List.mem_append_left _ (List.mem_append_left _ (List.mem_append_left _ (List.mem_of_getElem? (i := 5) rfl))))) am_nil)))) (by decide +kernel)) ggX3_addRing_X3_hasShaft
set_option maxRecDepth 20000 in
theorem ggX3_addRing_X8_within : GoodIn wsX3_addRing wsX8_within := goodIn_sub (am_cons (List.mem_cons_of_mem _ (List.mem_append_left _ (List.mem_append_left _ (List.mem_append_left _ (List.mem_of_getElem? (i := 10) rfl))))) (am_nil)) (by decide +kernel)
set_option maxRecDepth 20000 in
theorem gX3_addRing_X8_within_n42 : GoodIn wsX3_addRing (wsX8_within) := ggX3_addRing_X8_within
set_option maxRecDepth 20000 in
theorem ggX3_addRing_X3_outerPart : GoodIn wsX3_addRing wsX3_outerPart := goodIn_sub (am_cons (List.mem_cons_of_mem _ (List.mem_append_left _ (List.mem_append_left _ (List.mem_append_left _ (List.mem_of_getElem? (i := 14) rfl))))) (am_app (am_app (am_app (am_cons (List.mem_cons_of_mem _ (List.mem_append_left _ (List.mem_append_left _ (List.mem_append_left _ (List.mem_of_getElem? (i := 15) rfl))))) (am_cons (List.mem_cons_of_mem _ (List.mem_append_left _ (List.mem_append_left _ (List.mem_append_left _ (List.mem_of_getElem? (i := 16) rfl))))) (am_cons (List.mem_cons_of_mem _ (List.mem_append_left _ (List.mem_append_left _ (List.mem_append_left _ (List.mem_of_getElem? (i := 17) rfl))))) (am_cons (List.mem_cons_of_mem _ (List.mem_append_left _ (List.mem_append_left _ (List.mem_append_left _ (List.mem_of_getElem? (i := 18) rfl))))) (am_cons (List.mem_cons_of_mem _ (List.mem_append_left _ (List.mem_append_left _ (List.mem_append_left _ (List.mem_of_getElem? (i := 19) rfl))))) (am_cons (List.mem_cons_of_mem _ (List.mem_append_left _ (List.mem_append_left _ (List.mem_append_left _ (List.mem_of_getElem? (i := 20) rfl))))) (am_cons (List.mem_cons_of_mem _ (List.mem_append_left _ (List.mem_append_left _ (List.mem_append_left _ (List.mem_of_getElem? (i := 21) rfl))))) (am_cons (List.mem_cons_of_mem _ (List.mem_append_left _ (List.mem_append_left _ (List.mem_append_left _ (List.mem_of_getElem? (i := 22) rfl))))) (am_cons (List.mem_cons_of_mem _ (List.mem_append_left _ (List.mem_append_left _ (List.mem_append_left _ (List.mem_of_getElem? (i := 23) rfl))))) (am_cons (List.mem_cons_of_mem _ (List.mem_append_left _ (List.mem_append_left _ (List.mem_append_right _ (List.mem_append_left _ (List.mem_of_getElem? (i := 0) rfl)))))) (am_cons (List.mem_cons_of_mem _ (List.mem_append_left _ (List.mem_append_left _ (List.mem_append_right _ (List.mem_append_left _ (List.mem_of_getElem? (i := 1) rfl)))))) (am_cons (List.mem_cons_of_mem _ (List.mem_append_left _ (List.mem_append_left _ (List.mem_append_right _ (List.mem_append_left _ (List.mem_of_getElem? (i := 2) rfl)))))) (am_cons (List.mem_cons_of_mem _ (List.mem_append_left _ (List.mem_append_left _ (List.mem_append_right _ (List.mem_append_left _ (List.mem_of_getElem? (i := 3) rfl)))))) (am_cons (List.mem_cons_of_mem _ (List.mem_append_left _ (List.mem_append_left _ (List.mem_append_right _ (List.mem_append_left _ (List.mem_of_getElem? (i := 4) rfl)))))) (am_cons (List.mem_cons_of_mem _ (List.mem_append_left _ (List.mem_append_left _ (List.mem_append_right _ (List.mem_append_left _ (List.mem_of_getElem? (i := 5) rfl)))))) (am_cons (List.mem_cons_of_mem _ (List.mem_append_left _ (List.mem_append_left _ (List.mem_append_right _ (List.mem_append_left _ (List.mem_of_getElem? (i := 6) rfl)))))) (am_cons (List.mem_cons_of_mem _ (List.mem_append_left _ (List.mem_append_left _ (List.mem_append_right _ (List.mem_append_left _ (List.mem_of_getElem? (i := 7) rfl)))))) (am_cons (List.mem_cons_of_mem _ (List.mem_append_left _ (List.mem_append_left _ (List.mem_append_left _ (List.mem_of_getElem? (i := 5) rfl))))) (am_cons (List.mem_cons_of_mem _ (List.mem_append_left _ (List.mem_append_left _ (List.mem_append_right _ (List.mem_append_left _ (List.mem_of_getElem? (i := 8) rfl)))))) (am_cons (List.mem_cons_of_mem _ (List.mem_append_left _ (List.mem_append_left _ (List.mem_append_right _ (List.mem_append_left _ (List.mem_of_getElem? (i := 9) rfl)))))) (am_cons (List.mem_cons_of_mem _ (List.mem_append_left _ (List.mem_append_left _ (List.mem_append_right _ (List.mem_append_left _ (List.mem_of_getElem? (i := 10) rfl)))))) (am_cons (List.mem_cons_of_mem _ (List.mem_append_left _ (List.mem_append_left _ (List.mem_append_right _ (List.mem_append_left _ (List.mem_of_getElem? (i := 11) rfl)))))) (am_cons (List.mem_cons_of_mem _ (List.mem_append_left _ (List.mem_append_left _ (List.mem_append_right _ (List.mem_append_left _ (List.mem_of_getElem? (i := 12) rfl)))))) (am_cons (List.mem_cons_of_mem _ (List.mem_append_left _ (List.mem_append_left _ (List.mem_append_right _ (List.mem_append_left _ (List.mem_of_getElem? (i := 13) rfl)))))) am_nil)))))))))))))))))))))))) (am_cons (List.mem_cons_of_mem _ (List.mem_append_left _ (List.mem_append_left _ (List.mem_append_right _ (List.mem_append_left _ (List.mem_of_getElem? (i := 14) rfl)))))) (am_cons (List.mem_cons_of_mem _ (List.mem_append_left _ (List.mem_append_left _ (List.mem_append_right _ (List.mem_append_left _ (List.mem_of_getElem? (i := 15) rfl)))))) (am_cons (List.mem_cons_of_mem _ (List.mem_append_left _ (List.mem_append_left _ (List.mem_append_right _ (List.mem_append_left _ (List.mem_of_getElem? (i := 16) rfl)))))) (am_cons (List.mem_cons_of_mem _ (List.mem_append_left _ (List.mem_append_left _ (List.mem_append_left _ (List.mem_of_getElem? (i := 9) rfl))))) (am_cons (List.mem_cons_of_mem _ (List.mem_append_left _ (List.mem_append_left _ (List.mem_append_right _ (List.mem_append_left _ (List.mem_of_getElem? (i := 17) rfl)))))) (am_cons (List.mem_cons_of_mem _ (List.mem_append_left _ (List.mem_append_left _ (List.mem_append_right _ (List.mem_append_left _ (List.mem_of_getElem? (i := 18) rfl)))))) (am_cons (List.mem_cons_of_mem _ (List.mem_append_left _ (List.mem_append_left _ (List.mem_append_right _ (List.mem_append_left _ (List.mem_of_getElem? (i := 19) rfl)))))) (am_cons (List.mem_cons_of_mem _ (List.mem_append_left _ (List.mem_append_left _ (List.mem_append_right _ (List.mem_append_left _ (List.mem_of_getElem? (i := 20) rfl)))))) (am_cons (List.mem_cons_of_mem _ (List.mem_append_left _ (List.mem_append_left _ (List.mem_append_right _ (List.mem_append_left _ (List.mem_of_getElem? (i := 21) rfl)))))) am_nil)))))))))) (fun _ h => List.mem_cons_of_mem _ (List.mem_append_right _ (h)))) (fun _ h => List.mem_cons_of_mem _ (List.mem_append_left _ (List.mem_append_right _ (h)))))) (by decide +kernel)
set_option maxRecDepth 20000 in
theorem gX3_addRing_X3_outerPart : GoodIn wsX3_addRing (wsV RX3 57 RX3 yX3_outerPart wsX3_outerPart) := goodIn_app (goodIn_sub (am_cons (List.mem_cons_of_mem _ (List.mem_append_left _ (List.mem_append_left _ (List.mem_append_left _ (List.mem_of_getElem? (i := 11) rfl))))) (am_cons (List.mem_cons_of_mem _ (List.mem_append_left _ (List.mem_append_left _ (List.mem_append_left _ (List.mem_of_getElem? (i := 12) rfl))))) (am_cons (List.mem_cons_of_mem _ (List.mem_append_left _ (List.mem_append_left _ (List.mem_append_left _ (List.mem_of_getElem? (i := 13) rfl))))) (am_cons (List.mem_cons_of_mem _ (List.mem_append_left _ (List.mem_append_left _ (List.mem_append_left _ (List.mem_of_getElem? (i := 5) rfl))))) am_nil)))) (by decide +kernel)) ggX3_addRing_X3_outerPart
set_option maxRecDepth 20000 in
theorem ggX3_addRing_X3_innerPart : GoodIn wsX3_addRing wsX3_innerPart := goodIn_sub (am_cons (List.mem_cons_of_mem _ (List.mem_append_left _ (List.mem_append_left _ (List.mem_append_right _ (List.mem_append_right _ (List.mem_of_getElem? (i := 1) rfl)))))) (am_app (am_app (am_app (am_cons (List.mem_cons_of_mem _ (List.mem_append_left _ (List.mem_append_left _ (List.mem_append_left _ (List.mem_of_getElem? (i := 15) rfl))))) (am_cons (List.mem_cons_of_mem _ (List.mem_append_left _ (List.mem_append_left _ (List.mem_append_left _ (List.mem_of_getElem? (i := 16) rfl))))) (am_cons (List.mem_cons_of_mem _ (List.mem_append_left _ (List.mem_append_left _ (List.mem_append_left _ (List.mem_of_getElem? (i := 17) rfl))))) (am_cons (List.mem_cons_of_mem _ (List.mem_append_left _ (List.mem_append_left _ (List.mem_append_left _ (List.mem_of_getElem? (i := 18) rfl))))) (am_cons (List.mem_cons_of_mem _ (List.mem_append_left _ (List.mem_append_left _ (List.mem_append_left _ (List.mem_of_getElem? (i := 19) rfl))))) (am_cons (List.mem_cons_of_mem _ (List.mem_append_left _ (List.mem_append_left _ (List.mem_append_left _ (List.mem_of_getElem? (i := 20) rfl))))) (am_cons (List.mem_cons_of_mem _ (List.mem_append_left _ (List.mem_append_left _ (List.mem_append_left _ (List.mem_of_getElem? (i := 21) rfl))))) (am_cons (List.mem_cons_of_mem _ (List.mem_append_left _ (List.mem_append_left _ (List.mem_append_left _ (List.mem_of_getElem? (i := 22) rfl))))) (am_cons (List.mem_cons_of_mem _ (List.mem_append_left _ (List.mem_append_left _ (List.mem_append_left _ (List.mem_of_getElem? (i := 23) rfl))))) (am_cons (List.mem_cons_of_mem _ (List.mem_append_left _ (List.mem_append_left _ (List.mem_append_right _ (List.mem_append_left _ (List.mem_of_getElem? (i := 0) rfl)))))) (am_cons (List.mem_cons_of_mem _ (List.mem_append_left _ (List.mem_append_left _ (List.mem_append_right _ (List.mem_append_left _ (List.mem_of_getElem? (i := 1) rfl)))))) (am_cons (List.mem_cons_of_mem _ (List.mem_append_left _ (List.mem_append_left _ (List.mem_append_right _ (List.mem_append_left _ (List.mem_of_getElem? (i := 2) rfl)))))) (am_cons (List.mem_cons_of_mem _ (List.mem_append_left _ (List.mem_append_left _ (List.mem_append_right _ (List.mem_append_left _ (List.mem_of_getElem? (i := 3) rfl)))))) (am_cons (List.mem_cons_of_mem _ (List.mem_append_left _ (List.mem_append_left _ (List.mem_append_right _ (List.mem_append_left _ (List.mem_of_getElem? (i := 4) rfl)))))) (am_cons (List.mem_cons_of_mem _ (List.mem_append_left _ (List.mem_append_left _ (List.mem_append_right _ (List.mem_append_left _ (List.mem_of_getElem? (i := 5) rfl)))))) (am_cons (List.mem_cons_of_mem _ (List.mem_append_left _ (List.mem_append_left _ (List.mem_append_right _ (List.mem_append_left _ (List.mem_of_getElem? (i := 6) rfl)))))) (am_cons (List.mem_cons_of_mem _ (List.mem_append_left _ (List.mem_append_left _ (List.mem_append_right _ (List.mem_append_left _ (List.mem_of_getElem? (i := 7) rfl)))))) (am_cons (List.mem_cons_of_mem _ (List.mem_append_left _ (List.mem_append_left _ (List.mem_append_left _ (List.mem_of_getElem? (i := 5) rfl))))) (am_cons (List.mem_cons_of_mem _ (List.mem_append_left _ (List.mem_append_left _ (List.mem_append_right _ (List.mem_append_left _ (List.mem_of_getElem? (i := 8) rfl)))))) (am_cons (List.mem_cons_of_mem _ (List.mem_append_left _ (List.mem_append_left _ (List.mem_append_right _ (List.mem_append_left _ (List.mem_of_getElem? (i := 9) rfl)))))) (am_cons (List.mem_cons_of_mem _ (List.mem_append_left _ (List.mem_append_left _ (List.mem_append_right _ (List.mem_append_left _ (List.mem_of_getElem? (i := 10) rfl)))))) (am_cons (List.mem_cons_of_mem _ (List.mem_append_left _ (List.mem_append_left _ (List.mem_append_right _ (List.mem_append_left _ (List.mem_of_getElem? (i := 11) rfl)))))) (am_cons (List.mem_cons_of_mem _ (List.mem_append_left _ (List.mem_append_left _ (List.mem_append_right _ (List.mem_append_left _ (List.mem_of_getElem? (i := 12) rfl)))))) (am_cons (List.mem_cons_of_mem _ (List.mem_append_left _ (List.mem_append_left _ (List.mem_append_right _ (List.mem_append_left _ (List.mem_of_getElem? (i := 13) rfl)))))) am_nil)))))))))))))))))))))))) (am_cons (List.mem_cons_of_mem _ (List.mem_append_left _ (List.mem_append_left _ (List.mem_append_right _ (List.mem_append_left _ (List.mem_of_getElem? (i := 14) rfl)))))) (am_cons (List.mem_cons_of_mem _ (List.mem_append_left _ (List.mem_append_left _ (List.mem_append_right _ (List.mem_append_left _ (List.mem_of_getElem? (i := 15) rfl)))))) (am_cons (List.mem_cons_of_mem _ (List.mem_append_left _ (List.mem_append_left _ (List.mem_append_right _ (List.mem_append_left _ (List.mem_of_getElem? (i := 16) rfl)))))) (am_cons (List.mem_cons_of_mem _ (List.mem_append_left _ (List.mem_append_left _ (List.mem_append_left _ (List.mem_of_getElem? (i := 9) rfl))))) (am_cons (List.mem_cons_of_mem _ (List.mem_append_left _ (List.mem_append_left _ (List.mem_append_right _ (List.mem_append_left _ (List.mem_of_getElem? (i := 17) rfl)))))) (am_cons (List.mem_cons_of_mem _ (List.mem_append_left _ (List.mem_append_left _ (List.mem_append_right _ (List.mem_append_left _ (List.mem_of_getElem? (i := 18) rfl)))))) (am_cons (List.mem_cons_of_mem _ (List.mem_append_left _ (List.mem_append_left _ (List.mem_append_right _ (List.mem_append_left _ (List.mem_of_getElem? (i := 19) rfl)))))) (am_cons (List.mem_cons_of_mem _ (List.mem_append_left _ (List.mem_append_left _ (List.mem_append_right _ (List.mem_append_left _ (List.mem_of_getElem? (i := 20) rfl)))))) (am_cons (List.mem_cons_of_mem _ (List.mem_append_left _ (List.mem_append_left _ (List.mem_append_right _ (List.mem_append_left _ (List.mem_of_getElem? (i := 21) rfl)))))) am_nil)))))))))) (fun _ h => List.mem_cons_of_mem _ (List.mem_append_right _ (h)))) (fun _ h => List.mem_cons_of_mem _ (List.mem_append_left _ (List.mem_append_right _ (h)))))) (by decide +kernel)
set_option maxRecDepth 20000 in
theorem gX3_addRing_X3_innerPart : GoodIn wsX3_addRing (wsV RX3 61 RX3 yX3_innerPart wsX3_innerPart) := goodIn_app (goodIn_sub (am_cons (List.mem_cons_of_mem _ (List.mem_append_left _ (List.mem_append_left _ (List.mem_append_right _ (List.mem_append_left _ (List.mem_of_getElem? (i := 22) rfl)))))) (am_cons (List.mem_cons_of_mem _ (List.mem_append_left _ (List.mem_append_left _ (List.mem_append_right _ (List.mem_append_left _ (List.mem_of_getElem? (i := 23) rfl)))))) (am_cons (List.mem_cons_of_mem _ (List.mem_append_left _ (List.mem_append_left _ (List.mem_append_right _ (List.mem_append_right _ (List.mem_of_getElem? (i := 0) rfl)))))) (am_cons (List.mem_cons_of_mem _ (List.mem_append_left _ (List.mem_append_left _ (List.mem_append_left _ (List.mem_of_getElem? (i := 5) rfl))))) am_nil)))) (by decide +kernel)) ggX3_addRing_X3_innerPart
set_option maxRecDepth 20000 in
theorem ggX3_addRing_X3_cagePart : GoodIn wsX3_addRing wsX3_cagePart := goodIn_sub (am_cons (List.mem_cons_of_mem _ (List.mem_append_left _ (List.mem_append_left _ (List.mem_append_right _ (List.mem_append_right _ (List.mem_of_getElem? (i := 5) rfl)))))) (am_app (am_app (am_app (am_cons (List.mem_cons_of_mem _ (List.mem_append_left _ (List.mem_append_left _ (List.mem_append_left _ (List.mem_of_getElem? (i := 15) rfl))))) (am_cons (List.mem_cons_of_mem _ (List.mem_append_left _ (List.mem_append_left _ (List.mem_append_left _ (List.mem_of_getElem? (i := 16) rfl))))) (am_cons (List.mem_cons_of_mem _ (List.mem_append_left _ (List.mem_append_left _ (List.mem_append_left _ (List.mem_of_getElem? (i := 17) rfl))))) (am_cons (List.mem_cons_of_mem _ (List.mem_append_left _ (List.mem_append_left _ (List.mem_append_left _ (List.mem_of_getElem? (i := 18) rfl))))) (am_cons (List.mem_cons_of_mem _ (List.mem_append_left _ (List.mem_append_left _ (List.mem_append_left _ (List.mem_of_getElem? (i := 19) rfl))))) (am_cons (List.mem_cons_of_mem _ (List.mem_append_left _ (List.mem_append_left _ (List.mem_append_left _ (List.mem_of_getElem? (i := 20) rfl))))) (am_cons (List.mem_cons_of_mem _ (List.mem_append_left _ (List.mem_append_left _ (List.mem_append_left _ (List.mem_of_getElem? (i := 21) rfl))))) (am_cons (List.mem_cons_of_mem _ (List.mem_append_left _ (List.mem_append_left _ (List.mem_append_left _ (List.mem_of_getElem? (i := 22) rfl))))) (am_cons (List.mem_cons_of_mem _ (List.mem_append_left _ (List.mem_append_left _ (List.mem_append_left _ (List.mem_of_getElem? (i := 23) rfl))))) (am_cons (List.mem_cons_of_mem _ (List.mem_append_left _ (List.mem_append_left _ (List.mem_append_right _ (List.mem_append_left _ (List.mem_of_getElem? (i := 0) rfl)))))) (am_cons (List.mem_cons_of_mem _ (List.mem_append_left _ (List.mem_append_left _ (List.mem_append_right _ (List.mem_append_left _ (List.mem_of_getElem? (i := 1) rfl)))))) (am_cons (List.mem_cons_of_mem _ (List.mem_append_left _ (List.mem_append_left _ (List.mem_append_right _ (List.mem_append_left _ (List.mem_of_getElem? (i := 2) rfl)))))) (am_cons (List.mem_cons_of_mem _ (List.mem_append_left _ (List.mem_append_left _ (List.mem_append_right _ (List.mem_append_left _ (List.mem_of_getElem? (i := 3) rfl)))))) (am_cons (List.mem_cons_of_mem _ (List.mem_append_left _ (List.mem_append_left _ (List.mem_append_right _ (List.mem_append_left _ (List.mem_of_getElem? (i := 4) rfl)))))) (am_cons (List.mem_cons_of_mem _ (List.mem_append_left _ (List.mem_append_left _ (List.mem_append_right _ (List.mem_append_left _ (List.mem_of_getElem? (i := 5) rfl)))))) (am_cons (List.mem_cons_of_mem _ (List.mem_append_left _ (List.mem_append_left _ (List.mem_append_right _ (List.mem_append_left _ (List.mem_of_getElem? (i := 6) rfl)))))) (am_cons (List.mem_cons_of_mem _ (List.mem_append_left _ (List.mem_append_left _ (List.mem_append_right _ (List.mem_append_left _ (List.mem_of_getElem? (i := 7) rfl)))))) (am_cons (List.mem_cons_of_mem _ (List.mem_append_left _ (List.mem_append_left _ (List.mem_append_left _ (List.mem_of_getElem? (i := 5) rfl))))) (am_cons (List.mem_cons_of_mem _ (List.mem_append_left _ (List.mem_append_left _ (List.mem_append_right _ (List.mem_append_left _ (List.mem_of_getElem? (i := 8) rfl)))))) (am_cons (List.mem_cons_of_mem _ (List.mem_append_left _ (List.mem_append_left _ (List.mem_append_right _ (List.mem_append_left _ (List.mem_of_getElem? (i := 9) rfl)))))) (am_cons (List.mem_cons_of_mem _ (List.mem_append_left _ (List.mem_append_left _ (List.mem_append_right _ (List.mem_append_left _ (List.mem_of_getElem? (i := 10) rfl)))))) (am_cons (List.mem_cons_of_mem _ (List.mem_append_left _ (List.mem_append_left _ (List.mem_append_right _ (List.mem_append_left _ (List.mem_of_getElem? (i := 11) rfl)))))) (am_cons (List.mem_cons_of_mem _ (List.mem_append_left _ (List.mem_append_left _ (List.mem_append_right _ (List.mem_append_left _ (List.mem_of_getElem? (i := 12) rfl)))))) (am_cons (List.mem_cons_of_mem _ (List.mem_append_left _ (List.mem_append_left _ (List.mem_append_right _ (List.mem_append_left _ (List.mem_of_getElem? (i := 13) rfl)))))) am_nil)))))))))))))))))))))))) (am_cons (List.mem_cons_of_mem _ (List.mem_append_left _ (List.mem_append_left _ (List.mem_append_right _ (List.mem_append_left _ (List.mem_of_getElem? (i := 14) rfl)))))) (am_cons (List.mem_cons_of_mem _ (List.mem_append_left _ (List.mem_append_left _ (List.mem_append_right _ (List.mem_append_left _ (List.mem_of_getElem? (i := 15) rfl)))))) (am_cons (List.mem_cons_of_mem _ (List.mem_append_left _ (List.mem_append_left _ (List.mem_append_right _ (List.mem_append_left _ (List.mem_of_getElem? (i := 16) rfl)))))) (am_cons (List.mem_cons_of_mem _ (List.mem_append_left _ (List.mem_append_left _ (List.mem_append_left _ (List.mem_of_getElem? (i := 9) rfl))))) (am_cons (List.mem_cons_of_mem _ (List.mem_append_left _ (List.mem_append_left _ (List.mem_append_right _ (List.mem_append_left _ (List.mem_of_getElem? (i := 17) rfl)))))) (am_cons (List.mem_cons_of_mem _ (List.mem_append_left _ (List.mem_append_left _ (List.mem_append_right _ (List.mem_append_left _ (List.mem_of_getElem? (i := 18) rfl)))))) (am_cons (List.mem_cons_of_mem _ (List.mem_append_left _ (List.mem_append_left _ (List.mem_append_right _ (List.mem_append_left _ (List.mem_of_getElem? (i := 19) rfl)))))) (am_cons (List.mem_cons_of_mem _ (List.mem_append_left _ (List.mem_append_left _ (List.mem_append_right _ (List.mem_append_left _ (List.mem_of_getElem? (i := 20) rfl)))))) (am_cons (List.mem_cons_of_mem _ (List.mem_append_left _ (List.mem_append_left _ (List.mem_append_right _ (List.mem_append_left _ (List.mem_of_getElem? (i := 21) rfl)))))) am_nil)))))))))) (fun _ h => List.mem_cons_of_mem _ (List.mem_append_right _ (h)))) (fun _ h => List.mem_cons_of_mem _ (List.mem_append_left _ (List.mem_append_right _ (h)))))) (by decide +kernel)
set_option maxRecDepth 20000 in
theorem gX3_addRing_X3_cagePart : GoodIn wsX3_addRing (wsV RX3 64 RX3 yX3_cagePart wsX3_cagePart) := goodIn_app (goodIn_sub (am_cons (List.mem_cons_of_mem _ (List.mem_append_left _ (List.mem_append_left _ (List.mem_append_right _ (List.mem_append_right _ (List.mem_of_getElem? (i := 2) rfl)))))) (am_cons (List.mem_cons_of_mem _ (List.mem_append_left _ (List.mem_append_left _ (List.mem_append_right _ (List.mem_append_right _ (List.mem_of_getElem? (i := 3) rfl)))))) (am_cons (List.mem_cons_of_mem _ (List.mem_append_left _ (List.mem_append_left _ (List.mem_append_right _ (List.mem_append_right _ (List.mem_of_getElem? (i := 4) rfl)))))) (am_cons (List.mem_cons_of_mem _ (List.mem_append_left _ (List.mem_append_left _ (List.mem_append_left _ (List.mem_of_getElem? (i := 5) rfl))))) am_nil)))) (by decide +kernel)) ggX3_addRing_X3_cagePart
set_option maxRecDepth 20000 in
theorem ggX3_addRing_X3_ballsPart : GoodIn wsX3_addRing wsX3_ballsPart := goodIn_sub (am_cons (List.mem_cons_of_mem _ (List.mem_append_left _ (List.mem_append_left _ (List.mem_append_right _ (List.mem_append_right _ (List.mem_of_getElem? (i := 9) rfl)))))) (am_app (am_app (am_app (am_cons (List.mem_cons_of_mem _ (List.mem_append_left _ (List.mem_append_left _ (List.mem_append_left _ (List.mem_of_getElem? (i := 15) rfl))))) (am_cons (List.mem_cons_of_mem _ (List.mem_append_left _ (List.mem_append_left _ (List.mem_append_left _ (List.mem_of_getElem? (i := 16) rfl))))) (am_cons (List.mem_cons_of_mem _ (List.mem_append_left _ (List.mem_append_left _ (List.mem_append_left _ (List.mem_of_getElem? (i := 17) rfl))))) (am_cons (List.mem_cons_of_mem _ (List.mem_append_left _ (List.mem_append_left _ (List.mem_append_left _ (List.mem_of_getElem? (i := 18) rfl))))) (am_cons (List.mem_cons_of_mem _ (List.mem_append_left _ (List.mem_append_left _ (List.mem_append_left _ (List.mem_of_getElem? (i := 19) rfl))))) (am_cons (List.mem_cons_of_mem _ (List.mem_append_left _ (List.mem_append_left _ (List.mem_append_left _ (List.mem_of_getElem? (i := 20) rfl))))) (am_cons (List.mem_cons_of_mem _ (List.mem_append_left _ (List.mem_append_left _ (List.mem_append_left _ (List.mem_of_getElem? (i := 21) rfl))))) (am_cons (List.mem_cons_of_mem _ (List.mem_append_left _ (List.mem_append_left _ (List.mem_append_left _ (List.mem_of_getElem? (i := 22) rfl))))) (am_cons (List.mem_cons_of_mem _ (List.mem_append_left _ (List.mem_append_left _ (List.mem_append_left _ (List.mem_of_getElem? (i := 23) rfl))))) (am_cons (List.mem_cons_of_mem _ (List.mem_append_left _ (List.mem_append_left _ (List.mem_append_right _ (List.mem_append_left _ (List.mem_of_getElem? (i := 0) rfl)))))) (am_cons (List.mem_cons_of_mem _ (List.mem_append_left _ (List.mem_append_left _ (List.mem_append_right _ (List.mem_append_left _ (List.mem_of_getElem? (i := 1) rfl)))))) (am_cons (List.mem_cons_of_mem _ (List.mem_append_left _ (List.mem_append_left _ (List.mem_append_right _ (List.mem_append_left _ (List.mem_of_getElem? (i := 2) rfl)))))) (am_cons (List.mem_cons_of_mem _ (List.mem_append_left _ (List.mem_append_left _ (List.mem_append_right _ (List.mem_append_left _ (List.mem_of_getElem? (i := 3) rfl)))))) (am_cons (List.mem_cons_of_mem _ (List.mem_append_left _ (List.mem_append_left _ (List.mem_append_right _ (List.mem_append_left _ (List.mem_of_getElem? (i := 4) rfl)))))) (am_cons (List.mem_cons_of_mem _ (List.mem_append_left _ (List.mem_append_left _ (List.mem_append_right _ (List.mem_append_left _ (List.mem_of_getElem? (i := 5) rfl)))))) (am_cons (List.mem_cons_of_mem _ (List.mem_append_left _ (List.mem_append_left _ (List.mem_append_right _ (List.mem_append_left _ (List.mem_of_getElem? (i := 6) rfl)))))) (am_cons (List.mem_cons_of_mem _ (List.mem_append_left _ (List.mem_append_left _ (List.mem_append_right _ (List.mem_append_left _ (List.mem_of_getElem? (i := 7) rfl)))))) (am_cons (List.mem_cons_of_mem _ (List.mem_append_left _ (List.mem_append_left _ (List.mem_append_left _ (List.mem_of_getElem? (i := 5) rfl))))) (am_cons (List.mem_cons_of_mem _ (List.mem_append_left _ (List.mem_append_left _ (List.mem_append_right _ (List.mem_append_left _ (List.mem_of_getElem? (i := 8) rfl)))))) (am_cons (List.mem_cons_of_mem _ (List.mem_append_left _ (List.mem_append_left _ (List.mem_append_right _ (List.mem_append_left _ (List.mem_of_getElem? (i := 9) rfl)))))) (am_cons (List.mem_cons_of_mem _ (List.mem_append_left _ (List.mem_append_left _ (List.mem_append_right _ (List.mem_append_left _ (List.mem_of_getElem? (i := 10) rfl)))))) (am_cons (List.mem_cons_of_mem _ (List.mem_append_left _ (List.mem_append_left _ (List.mem_append_right _ (List.mem_append_left _ (List.mem_of_getElem? (i := 11) rfl)))))) (am_cons (List.mem_cons_of_mem _ (List.mem_append_left _ (List.mem_append_left _ (List.mem_append_right _ (List.mem_append_left _ (List.mem_of_getElem? (i := 12) rfl)))))) (am_cons (List.mem_cons_of_mem _ (List.mem_append_left _ (List.mem_append_left _ (List.mem_append_right _ (List.mem_append_left _ (List.mem_of_getElem? (i := 13) rfl)))))) am_nil)))))))))))))))))))))))) (am_cons (List.mem_cons_of_mem _ (List.mem_append_left _ (List.mem_append_left _ (List.mem_append_right _ (List.mem_append_left _ (List.mem_of_getElem? (i := 14) rfl)))))) (am_cons (List.mem_cons_of_mem _ (List.mem_append_left _ (List.mem_append_left _ (List.mem_append_right _ (List.mem_append_left _ (List.mem_of_getElem? (i := 15) rfl)))))) (am_cons (List.mem_cons_of_mem _ (List.mem_append_left _ (List.mem_append_left _ (List.mem_append_right _ (List.mem_append_left _ (List.mem_of_getElem? (i := 16) rfl)))))) (am_cons (List.mem_cons_of_mem _ (List.mem_append_left _ (List.mem_append_left _ (List.mem_append_left _ (List.mem_of_getElem? (i := 9) rfl))))) (am_cons (List.mem_cons_of_mem _ (List.mem_append_left _ (List.mem_append_left _ (List.mem_append_right _ (List.mem_append_left _ (List.mem_of_getElem? (i := 17) rfl)))))) (am_cons (List.mem_cons_of_mem _ (List.mem_append_left _ (List.mem_append_left _ (List.mem_append_right _ (List.mem_append_left _ (List.mem_of_getElem? (i := 18) rfl)))))) (am_cons (List.mem_cons_of_mem _ (List.mem_append_left _ (List.mem_append_left _ (List.mem_append_right _ (List.mem_append_left _ (List.mem_of_getElem? (i := 19) rfl)))))) (am_cons (List.mem_cons_of_mem _ (List.mem_append_left _ (List.mem_append_left _ (List.mem_append_right _ (List.mem_append_left _ (List.mem_of_getElem? (i := 20) rfl)))))) (am_cons (List.mem_cons_of_mem _ (List.mem_append_left _ (List.mem_append_left _ (List.mem_append_right _ (List.mem_append_left _ (List.mem_of_getElem? (i := 21) rfl)))))) am_nil)))))))))) (fun _ h => List.mem_cons_of_mem _ (List.mem_append_right _ (h)))) (fun _ h => List.mem_cons_of_mem _ (List.mem_append_left _ (List.mem_append_right _ (h)))))) (by decide +kernel)
set_option maxRecDepth 20000 in
theorem gX3_addRing_X3_ballsPart : GoodIn wsX3_addRing (wsV RX3 68 RX3 yX3_ballsPart wsX3_ballsPart) := goodIn_app (goodIn_sub (am_cons (List.mem_cons_of_mem _ (List.mem_append_left _ (List.mem_append_left _ (List.mem_append_right _ (List.mem_append_right _ (List.mem_of_getElem? (i := 6) rfl)))))) (am_cons (List.mem_cons_of_mem _ (List.mem_append_left _ (List.mem_append_left _ (List.mem_append_right _ (List.mem_append_right _ (List.mem_of_getElem? (i := 7) rfl)))))) (am_cons (List.mem_cons_of_mem _ (List.mem_append_left _ (List.mem_append_left _ (List.mem_append_right _ (List.mem_append_right _ (List.mem_of_getElem? (i := 8) rfl)))))) (am_cons (List.mem_cons_of_mem _ (List.mem_append_left _ (List.mem_append_left _ (List.mem_append_left _ (List.mem_of_getElem? (i := 5) rfl))))) am_nil)))) (by decide +kernel)) ggX3_addRing_X3_ballsPart
theorem dX3_addRing_0 : decode cX3_addRing 0 = .ok (.aload_n 0, 1) := by decide +kernel
theorem dX3_addRing_1 : decode cX3_addRing 1 = .ok (.iload_n 1, 1) := by decide +kernel
theorem dX3_addRing_2 : decode cX3_addRing 2 = .ok (.invokevirtual 38, 3) := by decide +kernel
theorem dX3_addRing_5 : decode cX3_addRing 5 = .ok (.ifCond .eq 36, 3) := by decide +kernel
theorem dX3_addRing_8 : decode cX3_addRing 8 = .ok (.iload_n 2, 1) := by decide +kernel
theorem dX3_addRing_9 : decode cX3_addRing 9 = .ok (.iconst 3, 1) := by decide +kernel
theorem dX3_addRing_10 : decode cX3_addRing 10 = .ok (.bipush 30, 2) := by decide +kernel
theorem dX3_addRing_12 : decode cX3_addRing 12 = .ok (.invokestatic 42, 3) := by decide +kernel
theorem dX3_addRing_15 : decode cX3_addRing 15 = .ok (.ifCond .eq 26, 3) := by decide +kernel
theorem dX3_addRing_18 : decode cX3_addRing 18 = .ok (.iload 4, 2) := by decide +kernel
theorem dX3_addRing_20 : decode cX3_addRing 20 = .ok (.iconst 2, 1) := by decide +kernel
theorem dX3_addRing_21 : decode cX3_addRing 21 = .ok (.bipush 100, 2) := by decide +kernel
theorem dX3_addRing_23 : decode cX3_addRing 23 = .ok (.invokestatic 42, 3) := by decide +kernel
theorem dX3_addRing_26 : decode cX3_addRing 26 = .ok (.ifCond .eq 15, 3) := by decide +kernel
theorem dX3_addRing_29 : decode cX3_addRing 29 = .ok (.iload_n 3, 1) := by decide +kernel
theorem dX3_addRing_30 : decode cX3_addRing 30 = .ok (.iconst 1, 1) := by decide +kernel
theorem dX3_addRing_31 : decode cX3_addRing 31 = .ok (.iload 4, 2) := by decide +kernel
theorem dX3_addRing_33 : decode cX3_addRing 33 = .ok (.iconst 1, 1) := by decide +kernel
theorem dX3_addRing_34 : decode cX3_addRing 34 = .ok (.isub, 1) := by decide +kernel
theorem dX3_addRing_35 : decode cX3_addRing 35 = .ok (.invokestatic 42, 3) := by decide +kernel
theorem dX3_addRing_38 : decode cX3_addRing 38 = .ok (.ifCond .ne 5, 3) := by decide +kernel
theorem dX3_addRing_41 : decode cX3_addRing 41 = .ok (.iconst (-1), 1) := by decide +kernel
theorem dX3_addRing_42 : decode cX3_addRing 42 = .ok (.ireturn, 1) := by decide +kernel
theorem dX3_addRing_43 : decode cX3_addRing 43 = .ok (.aload_n 0, 1) := by decide +kernel
theorem dX3_addRing_44 : decode cX3_addRing 44 = .ok (.getfield 54, 3) := by decide +kernel
theorem dX3_addRing_47 : decode cX3_addRing 47 = .ok (.bipush 8, 2) := by decide +kernel
theorem dX3_addRing_49 : decode cX3_addRing 49 = .ok (.if_icmp .lt 6, 3) := by decide +kernel
theorem dX3_addRing_52 : decode cX3_addRing 52 = .ok (.bipush (-3), 2) := by decide +kernel
theorem dX3_addRing_54 : decode cX3_addRing 54 = .ok (.ireturn, 1) := by decide +kernel
theorem dX3_addRing_55 : decode cX3_addRing 55 = .ok (.aload_n 0, 1) := by decide +kernel
theorem dX3_addRing_56 : decode cX3_addRing 56 = .ok (.getfield 54, 3) := by decide +kernel
theorem dX3_addRing_59 : decode cX3_addRing 59 = .ok (.iconst 4, 1) := by decide +kernel
theorem dX3_addRing_60 : decode cX3_addRing 60 = .ok (.imul, 1) := by decide +kernel
theorem dX3_addRing_61 : decode cX3_addRing 61 = .ok (.istore 5, 2) := by decide +kernel
theorem dX3_addRing_63 : decode cX3_addRing 63 = .ok (.aload_n 0, 1) := by decide +kernel
theorem dX3_addRing_64 : decode cX3_addRing 64 = .ok (.getfield 27, 3) := by decide +kernel
theorem dX3_addRing_67 : decode cX3_addRing 67 = .ok (.iload 5, 2) := by decide +kernel
theorem dX3_addRing_69 : decode cX3_addRing 69 = .ok (.aload_n 0, 1) := by decide +kernel
theorem dX3_addRing_70 : decode cX3_addRing 70 = .ok (.iload_n 1, 1) := by decide +kernel
theorem dX3_addRing_71 : decode cX3_addRing 71 = .ok (.iload_n 2, 1) := by decide +kernel
theorem dX3_addRing_72 : decode cX3_addRing 72 = .ok (.iload_n 3, 1) := by decide +kernel
theorem dX3_addRing_73 : decode cX3_addRing 73 = .ok (.iload 4, 2) := by decide +kernel
theorem dX3_addRing_75 : decode cX3_addRing 75 = .ok (.invokevirtual 57, 3) := by decide +kernel
theorem dX3_addRing_78 : decode cX3_addRing 78 = .ok (.aastore, 1) := by decide +kernel
theorem dX3_addRing_79 : decode cX3_addRing 79 = .ok (.aload_n 0, 1) := by decide +kernel
theorem dX3_addRing_80 : decode cX3_addRing 80 = .ok (.getfield 27, 3) := by decide +kernel
theorem dX3_addRing_83 : decode cX3_addRing 83 = .ok (.iload 5, 2) := by decide +kernel
theorem dX3_addRing_85 : decode cX3_addRing 85 = .ok (.iconst 1, 1) := by decide +kernel
theorem dX3_addRing_86 : decode cX3_addRing 86 = .ok (.iadd, 1) := by decide +kernel
theorem dX3_addRing_87 : decode cX3_addRing 87 = .ok (.aload_n 0, 1) := by decide +kernel
theorem dX3_addRing_88 : decode cX3_addRing 88 = .ok (.iload_n 1, 1) := by decide +kernel
theorem dX3_addRing_89 : decode cX3_addRing 89 = .ok (.iload_n 2, 1) := by decide +kernel
theorem dX3_addRing_90 : decode cX3_addRing 90 = .ok (.iload_n 3, 1) := by decide +kernel
theorem dX3_addRing_91 : decode cX3_addRing 91 = .ok (.iload 4, 2) := by decide +kernel
theorem dX3_addRing_93 : decode cX3_addRing 93 = .ok (.invokevirtual 61, 3) := by decide +kernel
theorem dX3_addRing_96 : decode cX3_addRing 96 = .ok (.aastore, 1) := by decide +kernel
theorem dX3_addRing_97 : decode cX3_addRing 97 = .ok (.aload_n 0, 1) := by decide +kernel
theorem dX3_addRing_98 : decode cX3_addRing 98 = .ok (.getfield 27, 3) := by decide +kernel
theorem dX3_addRing_101 : decode cX3_addRing 101 = .ok (.iload 5, 2) := by decide +kernel
theorem dX3_addRing_103 : decode cX3_addRing 103 = .ok (.iconst 2, 1) := by decide +kernel
theorem dX3_addRing_104 : decode cX3_addRing 104 = .ok (.iadd, 1) := by decide +kernel
theorem dX3_addRing_105 : decode cX3_addRing 105 = .ok (.aload_n 0, 1) := by decide +kernel
theorem dX3_addRing_106 : decode cX3_addRing 106 = .ok (.iload_n 1, 1) := by decide +kernel
theorem dX3_addRing_107 : decode cX3_addRing 107 = .ok (.iload_n 3, 1) := by decide +kernel
theorem dX3_addRing_108 : decode cX3_addRing 108 = .ok (.iload 4, 2) := by decide +kernel
theorem dX3_addRing_110 : decode cX3_addRing 110 = .ok (.invokevirtual 64, 3) := by decide +kernel
theorem dX3_addRing_113 : decode cX3_addRing 113 = .ok (.aastore, 1) := by decide +kernel
theorem dX3_addRing_114 : decode cX3_addRing 114 = .ok (.aload_n 0, 1) := by decide +kernel
theorem dX3_addRing_115 : decode cX3_addRing 115 = .ok (.getfield 27, 3) := by decide +kernel
theorem dX3_addRing_118 : decode cX3_addRing 118 = .ok (.iload 5, 2) := by decide +kernel
theorem dX3_addRing_120 : decode cX3_addRing 120 = .ok (.iconst 3, 1) := by decide +kernel
theorem dX3_addRing_121 : decode cX3_addRing 121 = .ok (.iadd, 1) := by decide +kernel
theorem dX3_addRing_122 : decode cX3_addRing 122 = .ok (.aload_n 0, 1) := by decide +kernel
theorem dX3_addRing_123 : decode cX3_addRing 123 = .ok (.iload_n 1, 1) := by decide +kernel
theorem dX3_addRing_124 : decode cX3_addRing 124 = .ok (.iload_n 3, 1) := by decide +kernel
theorem dX3_addRing_125 : decode cX3_addRing 125 = .ok (.iload 4, 2) := by decide +kernel
theorem dX3_addRing_127 : decode cX3_addRing 127 = .ok (.invokevirtual 68, 3) := by decide +kernel
theorem dX3_addRing_130 : decode cX3_addRing 130 = .ok (.aastore, 1) := by decide +kernel
theorem dX3_addRing_131 : decode cX3_addRing 131 = .ok (.aload_n 0, 1) := by decide +kernel
theorem dX3_addRing_132 : decode cX3_addRing 132 = .ok (.dup, 1) := by decide +kernel
theorem dX3_addRing_133 : decode cX3_addRing 133 = .ok (.getfield 54, 3) := by decide +kernel
theorem dX3_addRing_136 : decode cX3_addRing 136 = .ok (.iconst 1, 1) := by decide +kernel
theorem dX3_addRing_137 : decode cX3_addRing 137 = .ok (.iadd, 1) := by decide +kernel
theorem dX3_addRing_138 : decode cX3_addRing 138 = .ok (.putfield 54, 3) := by decide +kernel
theorem dX3_addRing_141 : decode cX3_addRing 141 = .ok (.aload_n 0, 1) := by decide +kernel
theorem dX3_addRing_142 : decode cX3_addRing 142 = .ok (.getfield 54, 3) := by decide +kernel
theorem dX3_addRing_145 : decode cX3_addRing 145 = .ok (.iconst 1, 1) := by decide +kernel
theorem dX3_addRing_146 : decode cX3_addRing 146 = .ok (.isub, 1) := by decide +kernel
theorem dX3_addRing_147 : decode cX3_addRing 147 = .ok (.ireturn, 1) := by decide +kernel
set_option maxRecDepth 20000 in
theorem ggX3_hasShaft_X8_within : GoodIn wsX3_hasShaft wsX8_within := goodIn_sub (am_cons (List.mem_cons_of_mem _ (List.mem_append_left _ (List.mem_of_getElem? (i := 3) rfl))) (am_nil)) (by decide +kernel)
set_option maxRecDepth 20000 in
theorem gX3_hasShaft_X8_within_n42 : GoodIn wsX3_hasShaft (wsX8_within) := ggX3_hasShaft_X8_within
theorem dX3_hasShaft_0 : decode cX3_hasShaft 0 = .ok (.iload_n 1, 1) := by decide +kernel
theorem dX3_hasShaft_1 : decode cX3_hasShaft 1 = .ok (.iconst 0, 1) := by decide +kernel
theorem dX3_hasShaft_2 : decode cX3_hasShaft 2 = .ok (.aload_n 0, 1) := by decide +kernel
theorem dX3_hasShaft_3 : decode cX3_hasShaft 3 = .ok (.getfield 34, 3) := by decide +kernel
theorem dX3_hasShaft_6 : decode cX3_hasShaft 6 = .ok (.iconst 1, 1) := by decide +kernel
theorem dX3_hasShaft_7 : decode cX3_hasShaft 7 = .ok (.isub, 1) := by decide +kernel
theorem dX3_hasShaft_8 : decode cX3_hasShaft 8 = .ok (.invokestatic 42, 3) := by decide +kernel
theorem dX3_hasShaft_11 : decode cX3_hasShaft 11 = .ok (.ireturn, 1) := by decide +kernel
set_option maxRecDepth 20000 in
theorem ggX3_speedAbove_X3_hasShaft : GoodIn wsX3_speedAbove wsX3_hasShaft := goodIn_sub (am_cons (List.mem_cons_of_mem _ (List.mem_append_left _ (List.mem_of_getElem? (i := 6) rfl))) (am_app (am_cons (List.mem_cons_of_mem _ (List.mem_append_left _ (List.mem_of_getElem? (i := 7) rfl))) (am_cons (List.mem_cons_of_mem _ (List.mem_append_left _ (List.mem_of_getElem? (i := 8) rfl))) (am_cons (List.mem_cons_of_mem _ (List.mem_append_left _ (List.mem_of_getElem? (i := 9) rfl))) (am_cons (List.mem_cons_of_mem _ (List.mem_append_left _ (List.mem_of_getElem? (i := 10) rfl))) am_nil)))) (fun _ h => List.mem_cons_of_mem _ (List.mem_append_right _ (h))))) (by decide +kernel)
set_option maxRecDepth 20000 in
theorem gX3_speedAbove_X3_hasShaft : GoodIn wsX3_speedAbove (wsV RX3 38 RX3 yX3_hasShaft wsX3_hasShaft) := goodIn_app (goodIn_sub (am_cons (List.mem_cons_of_mem _ (List.mem_append_left _ (List.mem_of_getElem? (i := 2) rfl))) (am_cons (List.mem_cons_of_mem _ (List.mem_append_left _ (List.mem_of_getElem? (i := 3) rfl))) (am_cons (List.mem_cons_of_mem _ (List.mem_append_left _ (List.mem_of_getElem? (i := 4) rfl))) (am_cons (List.mem_cons_of_mem _ (List.mem_append_left _ (List.mem_of_getElem? (i := 5) rfl))) am_nil)))) (by decide +kernel)) ggX3_speedAbove_X3_hasShaft
theorem dX3_speedAbove_0 : decode cX3_speedAbove 0 = .ok (.aload_n 0, 1) := by decide +kernel
theorem dX3_speedAbove_1 : decode cX3_speedAbove 1 = .ok (.iload_n 1, 1) := by decide +kernel
theorem dX3_speedAbove_2 : decode cX3_speedAbove 2 = .ok (.invokevirtual 38, 3) := by decide +kernel
theorem dX3_speedAbove_5 : decode cX3_speedAbove 5 = .ok (.ifCond .eq 12, 3) := by decide +kernel
theorem dX3_speedAbove_8 : decode cX3_speedAbove 8 = .ok (.aload_n 0, 1) := by decide +kernel
theorem dX3_speedAbove_9 : decode cX3_speedAbove 9 = .ok (.getfield 9, 3) := by decide +kernel
theorem dX3_speedAbove_12 : decode cX3_speedAbove 12 = .ok (.iload_n 1, 1) := by decide +kernel
theorem dX3_speedAbove_13 : decode cX3_speedAbove 13 = .ok (.laload, 1) := by decide +kernel
theorem dX3_speedAbove_14 : decode cX3_speedAbove 14 = .ok (.goto 6, 3) := by decide +kernel
theorem dX3_speedAbove_17 : decode cX3_speedAbove 17 = .ok (.ldc2_w 71, 3) := by decide +kernel
theorem dX3_speedAbove_20 : decode cX3_speedAbove 20 = .ok (.lreturn, 1) := by decide +kernel
set_option maxRecDepth 20000 in
theorem ggX3_speedBelow_X3_hasShaft : GoodIn wsX3_speedBelow wsX3_hasShaft := goodIn_sub (am_cons (List.mem_cons_of_mem _ (List.mem_append_left _ (List.mem_of_getElem? (i := 6) rfl))) (am_app (am_cons (List.mem_cons_of_mem _ (List.mem_append_left _ (List.mem_of_getElem? (i := 7) rfl))) (am_cons (List.mem_cons_of_mem _ (List.mem_append_left _ (List.mem_of_getElem? (i := 8) rfl))) (am_cons (List.mem_cons_of_mem _ (List.mem_append_left _ (List.mem_of_getElem? (i := 9) rfl))) (am_cons (List.mem_cons_of_mem _ (List.mem_append_left _ (List.mem_of_getElem? (i := 10) rfl))) am_nil)))) (fun _ h => List.mem_cons_of_mem _ (List.mem_append_right _ (h))))) (by decide +kernel)
set_option maxRecDepth 20000 in
theorem gX3_speedBelow_X3_hasShaft : GoodIn wsX3_speedBelow (wsV RX3 38 RX3 yX3_hasShaft wsX3_hasShaft) := goodIn_app (goodIn_sub (am_cons (List.mem_cons_of_mem _ (List.mem_append_left _ (List.mem_of_getElem? (i := 2) rfl))) (am_cons (List.mem_cons_of_mem _ (List.mem_append_left _ (List.mem_of_getElem? (i := 3) rfl))) (am_cons (List.mem_cons_of_mem _ (List.mem_append_left _ (List.mem_of_getElem? (i := 4) rfl))) (am_cons (List.mem_cons_of_mem _ (List.mem_append_left _ (List.mem_of_getElem? (i := 5) rfl))) am_nil)))) (by decide +kernel)) ggX3_speedBelow_X3_hasShaft
theorem dX3_speedBelow_0 : decode cX3_speedBelow 0 = .ok (.aload_n 0, 1) := by decide +kernel
theorem dX3_speedBelow_1 : decode cX3_speedBelow 1 = .ok (.iload_n 1, 1) := by decide +kernel
theorem dX3_speedBelow_2 : decode cX3_speedBelow 2 = .ok (.invokevirtual 38, 3) := by decide +kernel
theorem dX3_speedBelow_5 : decode cX3_speedBelow 5 = .ok (.ifCond .eq 12, 3) := by decide +kernel
theorem dX3_speedBelow_8 : decode cX3_speedBelow 8 = .ok (.aload_n 0, 1) := by decide +kernel
theorem dX3_speedBelow_9 : decode cX3_speedBelow 9 = .ok (.getfield 15, 3) := by decide +kernel
theorem dX3_speedBelow_12 : decode cX3_speedBelow 12 = .ok (.iload_n 1, 1) := by decide +kernel
theorem dX3_speedBelow_13 : decode cX3_speedBelow 13 = .ok (.laload, 1) := by decide +kernel
theorem dX3_speedBelow_14 : decode cX3_speedBelow 14 = .ok (.goto 6, 3) := by decide +kernel
theorem dX3_speedBelow_17 : decode cX3_speedBelow 17 = .ok (.ldc2_w 71, 3) := by decide +kernel
theorem dX3_speedBelow_20 : decode cX3_speedBelow 20 = .ok (.lreturn, 1) := by decide +kernel
theorem dX3_countParts_0 : decode cX3_countParts 0 = .ok (.iconst 2, 1) := by decide +kernel
theorem dX3_countParts_1 : decode cX3_countParts 1 = .ok (.aload_n 0, 1) := by decide +kernel
theorem dX3_countParts_2 : decode cX3_countParts 2 = .ok (.getfield 34, 3) := by decide +kernel
theorem dX3_countParts_5 : decode cX3_countParts 5 = .ok (.imul, 1) := by decide +kernel
theorem dX3_countParts_6 : decode cX3_countParts 6 = .ok (.iconst 1, 1) := by decide +kernel
theorem dX3_countParts_7 : decode cX3_countParts 7 = .ok (.isub, 1) := by decide +kernel
theorem dX3_countParts_8 : decode cX3_countParts 8 = .ok (.aload_n 0, 1) := by decide +kernel
theorem dX3_countParts_9 : decode cX3_countParts 9 = .ok (.getfield 54, 3) := by decide +kernel
theorem dX3_countParts_12 : decode cX3_countParts 12 = .ok (.iconst 4, 1) := by decide +kernel
theorem dX3_countParts_13 : decode cX3_countParts 13 = .ok (.imul, 1) := by decide +kernel
theorem dX3_countParts_14 : decode cX3_countParts 14 = .ok (.iadd, 1) := by decide +kernel
theorem dX3_countParts_15 : decode cX3_countParts 15 = .ok (.ireturn, 1) := by decide +kernel
set_option maxRecDepth 20000 in
theorem ggX3_find_X3_countParts : GoodIn wsX3_find wsX3_countParts := goodIn_sub (am_cons (List.mem_cons_of_mem _ (List.mem_append_left _ (List.mem_of_getElem? (i := 8) rfl))) (am_app (am_cons (List.mem_cons_of_mem _ (List.mem_append_left _ (List.mem_of_getElem? (i := 0) rfl))) (am_cons (List.mem_cons_of_mem _ (List.mem_append_left _ (List.mem_of_getElem? (i := 9) rfl))) am_nil)) (fun _ h => List.mem_cons_of_mem _ (List.mem_append_right _ (h))))) (by decide +kernel)
set_option maxRecDepth 20000 in
theorem gX3_find_X3_countParts : GoodIn wsX3_find (wsV RX3 73 RX3 yX3_countParts wsX3_countParts) := goodIn_app (goodIn_sub (am_cons (List.mem_cons_of_mem _ (List.mem_append_left _ (List.mem_of_getElem? (i := 4) rfl))) (am_cons (List.mem_cons_of_mem _ (List.mem_append_left _ (List.mem_of_getElem? (i := 5) rfl))) (am_cons (List.mem_cons_of_mem _ (List.mem_append_left _ (List.mem_of_getElem? (i := 6) rfl))) (am_cons (List.mem_cons_of_mem _ (List.mem_append_left _ (List.mem_of_getElem? (i := 7) rfl))) am_nil)))) (by decide +kernel)) ggX3_find_X3_countParts
theorem dX3_find_0 : decode cX3_find 0 = .ok (.iload_n 1, 1) := by decide +kernel
theorem dX3_find_1 : decode cX3_find 1 = .ok (.ifCond .lt 11, 3) := by decide +kernel
theorem dX3_find_4 : decode cX3_find 4 = .ok (.iload_n 1, 1) := by decide +kernel
theorem dX3_find_5 : decode cX3_find 5 = .ok (.aload_n 0, 1) := by decide +kernel
theorem dX3_find_6 : decode cX3_find 6 = .ok (.invokevirtual 73, 3) := by decide +kernel
theorem dX3_find_9 : decode cX3_find 9 = .ok (.if_icmp .lt 5, 3) := by decide +kernel
theorem dX3_find_12 : decode cX3_find 12 = .ok (.aconst_null, 1) := by decide +kernel
theorem dX3_find_13 : decode cX3_find 13 = .ok (.areturn, 1) := by decide +kernel
theorem dX3_find_14 : decode cX3_find 14 = .ok (.iload_n 1, 1) := by decide +kernel
theorem dX3_find_15 : decode cX3_find 15 = .ok (.aload_n 0, 1) := by decide +kernel
theorem dX3_find_16 : decode cX3_find 16 = .ok (.getfield 34, 3) := by decide +kernel
theorem dX3_find_19 : decode cX3_find 19 = .ok (.if_icmp .ge 10, 3) := by decide +kernel
theorem dX3_find_22 : decode cX3_find 22 = .ok (.aload_n 0, 1) := by decide +kernel
theorem dX3_find_23 : decode cX3_find 23 = .ok (.getfield 20, 3) := by decide +kernel
theorem dX3_find_26 : decode cX3_find 26 = .ok (.iload_n 1, 1) := by decide +kernel
theorem dX3_find_27 : decode cX3_find 27 = .ok (.aaload, 1) := by decide +kernel
theorem dX3_find_28 : decode cX3_find 28 = .ok (.areturn, 1) := by decide +kernel
theorem dX3_find_29 : decode cX3_find 29 = .ok (.iload_n 1, 1) := by decide +kernel
theorem dX3_find_30 : decode cX3_find 30 = .ok (.aload_n 0, 1) := by decide +kernel
theorem dX3_find_31 : decode cX3_find 31 = .ok (.getfield 34, 3) := by decide +kernel
theorem dX3_find_34 : decode cX3_find 34 = .ok (.isub, 1) := by decide +kernel
theorem dX3_find_35 : decode cX3_find 35 = .ok (.istore_n 2, 1) := by decide +kernel
theorem dX3_find_36 : decode cX3_find 36 = .ok (.iload_n 2, 1) := by decide +kernel
theorem dX3_find_37 : decode cX3_find 37 = .ok (.aload_n 0, 1) := by decide +kernel
theorem dX3_find_38 : decode cX3_find 38 = .ok (.getfield 34, 3) := by decide +kernel
theorem dX3_find_41 : decode cX3_find 41 = .ok (.iconst 1, 1) := by decide +kernel
theorem dX3_find_42 : decode cX3_find 42 = .ok (.isub, 1) := by decide +kernel
theorem dX3_find_43 : decode cX3_find 43 = .ok (.if_icmp .ge 10, 3) := by decide +kernel
theorem dX3_find_46 : decode cX3_find 46 = .ok (.aload_n 0, 1) := by decide +kernel
theorem dX3_find_47 : decode cX3_find 47 = .ok (.getfield 24, 3) := by decide +kernel
theorem dX3_find_50 : decode cX3_find 50 = .ok (.iload_n 2, 1) := by decide +kernel
theorem dX3_find_51 : decode cX3_find 51 = .ok (.aaload, 1) := by decide +kernel
theorem dX3_find_52 : decode cX3_find 52 = .ok (.areturn, 1) := by decide +kernel
theorem dX3_find_53 : decode cX3_find 53 = .ok (.aload_n 0, 1) := by decide +kernel
theorem dX3_find_54 : decode cX3_find 54 = .ok (.getfield 27, 3) := by decide +kernel
theorem dX3_find_57 : decode cX3_find 57 = .ok (.iload_n 2, 1) := by decide +kernel
theorem dX3_find_58 : decode cX3_find 58 = .ok (.aload_n 0, 1) := by decide +kernel
theorem dX3_find_59 : decode cX3_find 59 = .ok (.getfield 34, 3) := by decide +kernel
theorem dX3_find_62 : decode cX3_find 62 = .ok (.iconst 1, 1) := by decide +kernel
theorem dX3_find_63 : decode cX3_find 63 = .ok (.isub, 1) := by decide +kernel
theorem dX3_find_64 : decode cX3_find 64 = .ok (.isub, 1) := by decide +kernel
theorem dX3_find_65 : decode cX3_find 65 = .ok (.aaload, 1) := by decide +kernel
theorem dX3_find_66 : decode cX3_find 66 = .ok (.areturn, 1) := by decide +kernel
set_option maxRecDepth 20000 in
theorem ggX3_ownPart_X6_init : GoodIn wsX3_ownPart wsX6_init := goodIn_sub (am_cons (List.mem_cons_of_mem _ (List.mem_append_left _ (List.mem_append_left _ (List.mem_append_left _ (List.mem_of_getElem? (i := 5) rfl))))) (am_app (am_cons (List.mem_cons_of_mem _ (List.mem_append_left _ (List.mem_append_left _ (List.mem_append_left _ (List.mem_of_getElem? (i := 6) rfl))))) (am_cons (List.mem_cons_of_mem _ (List.mem_append_left _ (List.mem_append_left _ (List.mem_append_left _ (List.mem_of_getElem? (i := 7) rfl))))) (am_cons (List.mem_cons_of_mem _ (List.mem_append_left _ (List.mem_append_left _ (List.mem_append_left _ (List.mem_of_getElem? (i := 8) rfl))))) (am_cons (List.mem_cons_of_mem _ (List.mem_append_left _ (List.mem_append_left _ (List.mem_append_left _ (List.mem_of_getElem? (i := 9) rfl))))) (am_cons (List.mem_cons_of_mem _ (List.mem_append_left _ (List.mem_append_left _ (List.mem_append_left _ (List.mem_of_getElem? (i := 10) rfl))))) (am_cons (List.mem_cons_of_mem _ (List.mem_append_left _ (List.mem_append_left _ (List.mem_append_left _ (List.mem_of_getElem? (i := 11) rfl))))) (am_cons (List.mem_cons_of_mem _ (List.mem_append_left _ (List.mem_append_left _ (List.mem_append_left _ (List.mem_of_getElem? (i := 12) rfl))))) (am_cons (List.mem_cons_of_mem _ (List.mem_append_left _ (List.mem_append_left _ (List.mem_append_left _ (List.mem_of_getElem? (i := 13) rfl))))) am_nil)))))))) (fun _ h => List.mem_cons_of_mem _ (List.mem_append_left _ (List.mem_append_right _ (h)))))) (by decide +kernel)
set_option maxRecDepth 20000 in
theorem gX3_ownPart_X6_init : GoodIn wsX3_ownPart (wsX6_init) := ggX3_ownPart_X6_init
set_option maxRecDepth 20000 in
theorem ggX3_ownPart_X3_addMultiple : GoodIn wsX3_ownPart wsX3_addMultiple := goodIn_sub (am_cons (List.mem_cons_of_mem _ (List.mem_append_left _ (List.mem_append_left _ (List.mem_append_left _ (List.mem_of_getElem? (i := 18) rfl))))) (am_app (am_app (am_cons (List.mem_cons_of_mem _ (List.mem_append_left _ (List.mem_append_left _ (List.mem_append_left _ (List.mem_of_getElem? (i := 19) rfl))))) (am_cons (List.mem_cons_of_mem _ (List.mem_append_left _ (List.mem_append_left _ (List.mem_append_left _ (List.mem_of_getElem? (i := 20) rfl))))) (am_cons (List.mem_cons_of_mem _ (List.mem_append_left _ (List.mem_append_left _ (List.mem_append_left _ (List.mem_of_getElem? (i := 21) rfl))))) (am_cons (List.mem_cons_of_mem _ (List.mem_append_left _ (List.mem_append_left _ (List.mem_append_left _ (List.mem_of_getElem? (i := 22) rfl))))) (am_cons (List.mem_cons_of_mem _ (List.mem_append_left _ (List.mem_append_left _ (List.mem_append_left _ (List.mem_of_getElem? (i := 23) rfl))))) (am_cons (List.mem_cons_of_mem _ (List.mem_append_left _ (List.mem_append_left _ (List.mem_append_left _ (List.mem_of_getElem? (i := 2) rfl))))) (am_cons (List.mem_cons_of_mem _ (List.mem_append_left _ (List.mem_append_left _ (List.mem_append_right _ (List.mem_of_getElem? (i := 0) rfl))))) (am_cons (List.mem_cons_of_mem _ (List.mem_append_left _ (List.mem_append_left _ (List.mem_append_right _ (List.mem_of_getElem? (i := 1) rfl))))) (am_cons (List.mem_cons_of_mem _ (List.mem_append_left _ (List.mem_append_left _ (List.mem_append_left _ (List.mem_of_getElem? (i := 10) rfl))))) (am_cons (List.mem_cons_of_mem _ (List.mem_append_left _ (List.mem_append_left _ (List.mem_append_left _ (List.mem_of_getElem? (i := 11) rfl))))) (am_cons (List.mem_cons_of_mem _ (List.mem_append_left _ (List.mem_append_left _ (List.mem_append_right _ (List.mem_of_getElem? (i := 2) rfl))))) (am_cons (List.mem_cons_of_mem _ (List.mem_append_left _ (List.mem_append_left _ (List.mem_append_right _ (List.mem_of_getElem? (i := 3) rfl))))) (am_cons (List.mem_cons_of_mem _ (List.mem_append_left _ (List.mem_append_left _ (List.mem_append_right _ (List.mem_of_getElem? (i := 4) rfl))))) (am_cons (List.mem_cons_of_mem _ (List.mem_append_left _ (List.mem_append_left _ (List.mem_append_right _ (List.mem_of_getElem? (i := 5) rfl))))) (am_cons (List.mem_cons_of_mem _ (List.mem_append_left _ (List.mem_append_left _ (List.mem_append_right _ (List.mem_of_getElem? (i := 6) rfl))))) (am_cons (List.mem_cons_of_mem _ (List.mem_append_left _ (List.mem_append_left _ (List.mem_append_right _ (List.mem_of_getElem? (i := 7) rfl))))) (am_cons (List.mem_cons_of_mem _ (List.mem_append_left _ (List.mem_append_left _ (List.mem_append_right _ (List.mem_of_getElem? (i := 8) rfl))))) am_nil))))))))))))))))) (fun _ h => List.mem_cons_of_mem _ (List.mem_append_right _ (h)))) (fun _ h => List.mem_cons_of_mem _ (List.mem_append_left _ (List.mem_append_right _ (h)))))) (by decide +kernel)
set_option maxRecDepth 20000 in
theorem gX3_ownPart_X3_addMultiple : GoodIn wsX3_ownPart (wsV RX3 80 RX3 yX3_addMultiple wsX3_addMultiple) := goodIn_app (goodIn_sub (am_cons (List.mem_cons_of_mem _ (List.mem_append_left _ (List.mem_append_left _ (List.mem_append_left _ (List.mem_of_getElem? (i := 14) rfl))))) (am_cons (List.mem_cons_of_mem _ (List.mem_append_left _ (List.mem_append_left _ (List.mem_append_left _ (List.mem_of_getElem? (i := 15) rfl))))) (am_cons (List.mem_cons_of_mem _ (List.mem_append_left _ (List.mem_append_left _ (List.mem_append_left _ (List.mem_of_getElem? (i := 16) rfl))))) (am_cons (List.mem_cons_of_mem _ (List.mem_append_left _ (List.mem_append_left _ (List.mem_append_left _ (List.mem_of_getElem? (i := 17) rfl))))) am_nil)))) (by decide +kernel)) ggX3_ownPart_X3_addMultiple
theorem dX3_ownPart_0 : decode cX3_ownPart 0 = .ok (.new 18, 3) := by decide +kernel
theorem dX3_ownPart_3 : decode cX3_ownPart 3 = .ok (.dup, 1) := by decide +kernel
theorem dX3_ownPart_4 : decode cX3_ownPart 4 = .ok (.iconst 0, 1) := by decide +kernel
theorem dX3_ownPart_5 : decode cX3_ownPart 5 = .ok (.iload_n 1, 1) := by decide +kernel
theorem dX3_ownPart_6 : decode cX3_ownPart 6 = .ok (.invokespecial 77, 3) := by decide +kernel
theorem dX3_ownPart_9 : decode cX3_ownPart 9 = .ok (.astore_n 2, 1) := by decide +kernel
theorem dX3_ownPart_10 : decode cX3_ownPart 10 = .ok (.aload_n 0, 1) := by decide +kernel
theorem dX3_ownPart_11 : decode cX3_ownPart 11 = .ok (.aload_n 2, 1) := by decide +kernel
theorem dX3_ownPart_12 : decode cX3_ownPart 12 = .ok (.iconst 1, 1) := by decide +kernel
theorem dX3_ownPart_13 : decode cX3_ownPart 13 = .ok (.iconst 1, 1) := by decide +kernel
theorem dX3_ownPart_14 : decode cX3_ownPart 14 = .ok (.invokevirtual 80, 3) := by decide +kernel
theorem dX3_ownPart_17 : decode cX3_ownPart 17 = .ok (.aload_n 0, 1) := by decide +kernel
theorem dX3_ownPart_18 : decode cX3_ownPart 18 = .ok (.aload_n 2, 1) := by decide +kernel
theorem dX3_ownPart_19 : decode cX3_ownPart 19 = .ok (.iconst 2, 1) := by decide +kernel
theorem dX3_ownPart_20 : decode cX3_ownPart 20 = .ok (.iconst 1, 1) := by decide +kernel
theorem dX3_ownPart_21 : decode cX3_ownPart 21 = .ok (.invokevirtual 80, 3) := by decide +kernel
theorem dX3_ownPart_24 : decode cX3_ownPart 24 = .ok (.aload_n 0, 1) := by decide +kernel
theorem dX3_ownPart_25 : decode cX3_ownPart 25 = .ok (.aload_n 2, 1) := by decide +kernel
theorem dX3_ownPart_26 : decode cX3_ownPart 26 = .ok (.iconst 3, 1) := by decide +kernel
theorem dX3_ownPart_27 : decode cX3_ownPart 27 = .ok (.iconst 1, 1) := by decide +kernel
theorem dX3_ownPart_28 : decode cX3_ownPart 28 = .ok (.invokevirtual 80, 3) := by decide +kernel
theorem dX3_ownPart_31 : decode cX3_ownPart 31 = .ok (.aload_n 2, 1) := by decide +kernel
theorem dX3_ownPart_32 : decode cX3_ownPart 32 = .ok (.areturn, 1) := by decide +kernel
set_option maxRecDepth 20000 in
theorem ggX3_gearPart_X6_init : GoodIn wsX3_gearPart wsX6_init := goodIn_sub (am_cons (List.mem_cons_of_mem _ (List.mem_append_left _ (List.mem_append_left _ (List.mem_append_left _ (List.mem_of_getElem? (i := 5) rfl))))) (am_app (am_cons (List.mem_cons_of_mem _ (List.mem_append_left _ (List.mem_append_left _ (List.mem_append_left _ (List.mem_of_getElem? (i := 6) rfl))))) (am_cons (List.mem_cons_of_mem _ (List.mem_append_left _ (List.mem_append_left _ (List.mem_append_left _ (List.mem_of_getElem? (i := 7) rfl))))) (am_cons (List.mem_cons_of_mem _ (List.mem_append_left _ (List.mem_append_left _ (List.mem_append_left _ (List.mem_of_getElem? (i := 8) rfl))))) (am_cons (List.mem_cons_of_mem _ (List.mem_append_left _ (List.mem_append_left _ (List.mem_append_left _ (List.mem_of_getElem? (i := 9) rfl))))) (am_cons (List.mem_cons_of_mem _ (List.mem_append_left _ (List.mem_append_left _ (List.mem_append_left _ (List.mem_of_getElem? (i := 10) rfl))))) (am_cons (List.mem_cons_of_mem _ (List.mem_append_left _ (List.mem_append_left _ (List.mem_append_left _ (List.mem_of_getElem? (i := 11) rfl))))) (am_cons (List.mem_cons_of_mem _ (List.mem_append_left _ (List.mem_append_left _ (List.mem_append_left _ (List.mem_of_getElem? (i := 12) rfl))))) (am_cons (List.mem_cons_of_mem _ (List.mem_append_left _ (List.mem_append_left _ (List.mem_append_left _ (List.mem_of_getElem? (i := 13) rfl))))) am_nil)))))))) (fun _ h => List.mem_cons_of_mem _ (List.mem_append_left _ (List.mem_append_right _ (h)))))) (by decide +kernel)
set_option maxRecDepth 20000 in
theorem gX3_gearPart_X6_init : GoodIn wsX3_gearPart (wsX6_init) := ggX3_gearPart_X6_init
set_option maxRecDepth 20000 in
theorem ggX3_gearPart_X3_addMultiple : GoodIn wsX3_gearPart wsX3_addMultiple := goodIn_sub (am_cons (List.mem_cons_of_mem _ (List.mem_append_left _ (List.mem_append_left _ (List.mem_append_left _ (List.mem_of_getElem? (i := 18) rfl))))) (am_app (am_app (am_cons (List.mem_cons_of_mem _ (List.mem_append_left _ (List.mem_append_left _ (List.mem_append_left _ (List.mem_of_getElem? (i := 19) rfl))))) (am_cons (List.mem_cons_of_mem _ (List.mem_append_left _ (List.mem_append_left _ (List.mem_append_left _ (List.mem_of_getElem? (i := 20) rfl))))) (am_cons (List.mem_cons_of_mem _ (List.mem_append_left _ (List.mem_append_left _ (List.mem_append_left _ (List.mem_of_getElem? (i := 21) rfl))))) (am_cons (List.mem_cons_of_mem _ (List.mem_append_left _ (List.mem_append_left _ (List.mem_append_left _ (List.mem_of_getElem? (i := 22) rfl))))) (am_cons (List.mem_cons_of_mem _ (List.mem_append_left _ (List.mem_append_left _ (List.mem_append_left _ (List.mem_of_getElem? (i := 23) rfl))))) (am_cons (List.mem_cons_of_mem _ (List.mem_append_left _ (List.mem_append_left _ (List.mem_append_left _ (List.mem_of_getElem? (i := 2) rfl))))) (am_cons (List.mem_cons_of_mem _ (List.mem_append_left _ (List.mem_append_left _ (List.mem_append_right _ (List.mem_of_getElem? (i := 0) rfl))))) (am_cons (List.mem_cons_of_mem _ (List.mem_append_left _ (List.mem_append_left _ (List.mem_append_right _ (List.mem_of_getElem? (i := 1) rfl))))) (am_cons (List.mem_cons_of_mem _ (List.mem_append_left _ (List.mem_append_left _ (List.mem_append_left _ (List.mem_of_getElem? (i := 10) rfl))))) (am_cons (List.mem_cons_of_mem _ (List.mem_append_left _ (List.mem_append_left _ (List.mem_append_left _ (List.mem_of_getElem? (i := 11) rfl))))) (am_cons (List.mem_cons_of_mem _ (List.mem_append_left _ (List.mem_append_left _ (List.mem_append_right _ (List.mem_of_getElem? (i := 2) rfl))))) (am_cons (List.mem_cons_of_mem _ (List.mem_append_left _ (List.mem_append_left _ (List.mem_append_right _ (List.mem_of_getElem? (i := 3) rfl))))) (am_cons (List.mem_cons_of_mem _ (List.mem_append_left _ (List.mem_append_left _ (List.mem_append_right _ (List.mem_of_getElem? (i := 4) rfl))))) (am_cons (List.mem_cons_of_mem _ (List.mem_append_left _ (List.mem_append_left _ (List.mem_append_right _ (List.mem_of_getElem? (i := 5) rfl))))) (am_cons (List.mem_cons_of_mem _ (List.mem_append_left _ (List.mem_append_left _ (List.mem_append_right _ (List.mem_of_getElem? (i := 6) rfl))))) (am_cons (List.mem_cons_of_mem _ (List.mem_append_left _ (List.mem_append_left _ (List.mem_append_right _ (List.mem_of_getElem? (i := 7) rfl))))) (am_cons (List.mem_cons_of_mem _ (List.mem_append_left _ (List.mem_append_left _ (List.mem_append_right _ (List.mem_of_getElem? (i := 8) rfl))))) am_nil))))))))))))))))) (fun _ h => List.mem_cons_of_mem _ (List.mem_append_right _ (h)))) (fun _ h => List.mem_cons_of_mem _ (List.mem_append_left _ (List.mem_append_right _ (h)))))) (by decide +kernel)
set_option maxRecDepth 20000 in
theorem gX3_gearPart_X3_addMultiple : GoodIn wsX3_gearPart (wsV RX3 80 RX3 yX3_addMultiple wsX3_addMultiple) := goodIn_app (goodIn_sub (am_cons (List.mem_cons_of_mem _ (List.mem_append_left _ (List.mem_append_left _ (List.mem_append_left _ (List.mem_of_getElem? (i := 14) rfl))))) (am_cons (List.mem_cons_of_mem _ (List.mem_append_left _ (List.mem_append_left _ (List.mem_append_left _ (List.mem_of_getElem? (i := 15) rfl))))) (am_cons (List.mem_cons_of_mem _ (List.mem_append_left _ (List.mem_append_left _ (List.mem_append_left _ (List.mem_of_getElem? (i := 16) rfl))))) (am_cons (List.mem_cons_of_mem _ (List.mem_append_left _ (List.mem_append_left _ (List.mem_append_left _ (List.mem_of_getElem? (i := 17) rfl))))) am_nil)))) (by decide +kernel)) ggX3_gearPart_X3_addMultiple
theorem dX3_gearPart_0 : decode cX3_gearPart 0 = .ok (.new 18, 3) := by decide +kernel
theorem dX3_gearPart_3 : decode cX3_gearPart 3 = .ok (.dup, 1) := by decide +kernel
theorem dX3_gearPart_4 : decode cX3_gearPart 4 = .ok (.iconst 1, 1) := by decide +kernel
theorem dX3_gearPart_5 : decode cX3_gearPart 5 = .ok (.iload_n 1, 1) := by decide +kernel
theorem dX3_gearPart_6 : decode cX3_gearPart 6 = .ok (.invokespecial 77, 3) := by decide +kernel
theorem dX3_gearPart_9 : decode cX3_gearPart 9 = .ok (.astore_n 3, 1) := by decide +kernel
theorem dX3_gearPart_10 : decode cX3_gearPart 10 = .ok (.aload_n 0, 1) := by decide +kernel
theorem dX3_gearPart_11 : decode cX3_gearPart 11 = .ok (.aload_n 3, 1) := by decide +kernel
theorem dX3_gearPart_12 : decode cX3_gearPart 12 = .ok (.iload_n 2, 1) := by decide +kernel
theorem dX3_gearPart_13 : decode cX3_gearPart 13 = .ok (.iconst 1, 1) := by decide +kernel
theorem dX3_gearPart_14 : decode cX3_gearPart 14 = .ok (.invokevirtual 80, 3) := by decide +kernel
theorem dX3_gearPart_17 : decode cX3_gearPart 17 = .ok (.aload_n 0, 1) := by decide +kernel
theorem dX3_gearPart_18 : decode cX3_gearPart 18 = .ok (.aload_n 3, 1) := by decide +kernel
theorem dX3_gearPart_19 : decode cX3_gearPart 19 = .ok (.iconst 2, 1) := by decide +kernel
theorem dX3_gearPart_20 : decode cX3_gearPart 20 = .ok (.iload_n 2, 1) := by decide +kernel
theorem dX3_gearPart_21 : decode cX3_gearPart 21 = .ok (.imul, 1) := by decide +kernel
theorem dX3_gearPart_22 : decode cX3_gearPart 22 = .ok (.iconst 1, 1) := by decide +kernel
theorem dX3_gearPart_23 : decode cX3_gearPart 23 = .ok (.invokevirtual 80, 3) := by decide +kernel
theorem dX3_gearPart_26 : decode cX3_gearPart 26 = .ok (.aload_n 3, 1) := by decide +kernel
theorem dX3_gearPart_27 : decode cX3_gearPart 27 = .ok (.areturn, 1) := by decide +kernel
set_option maxRecDepth 20000 in
theorem ggX3_outerPart_X6_init : GoodIn wsX3_outerPart wsX6_init := goodIn_sub (am_cons (List.mem_cons_of_mem _ (List.mem_append_left _ (List.mem_append_left _ (List.mem_append_left _ (List.mem_of_getElem? (i := 5) rfl))))) (am_app (am_cons (List.mem_cons_of_mem _ (List.mem_append_left _ (List.mem_append_left _ (List.mem_append_left _ (List.mem_of_getElem? (i := 6) rfl))))) (am_cons (List.mem_cons_of_mem _ (List.mem_append_left _ (List.mem_append_left _ (List.mem_append_left _ (List.mem_of_getElem? (i := 7) rfl))))) (am_cons (List.mem_cons_of_mem _ (List.mem_append_left _ (List.mem_append_left _ (List.mem_append_left _ (List.mem_of_getElem? (i := 8) rfl))))) (am_cons (List.mem_cons_of_mem _ (List.mem_append_left _ (List.mem_append_left _ (List.mem_append_left _ (List.mem_of_getElem? (i := 9) rfl))))) (am_cons (List.mem_cons_of_mem _ (List.mem_append_left _ (List.mem_append_left _ (List.mem_append_left _ (List.mem_of_getElem? (i := 10) rfl))))) (am_cons (List.mem_cons_of_mem _ (List.mem_append_left _ (List.mem_append_left _ (List.mem_append_left _ (List.mem_of_getElem? (i := 11) rfl))))) (am_cons (List.mem_cons_of_mem _ (List.mem_append_left _ (List.mem_append_left _ (List.mem_append_left _ (List.mem_of_getElem? (i := 12) rfl))))) (am_cons (List.mem_cons_of_mem _ (List.mem_append_left _ (List.mem_append_left _ (List.mem_append_left _ (List.mem_of_getElem? (i := 13) rfl))))) am_nil)))))))) (fun _ h => List.mem_cons_of_mem _ (List.mem_append_left _ (List.mem_append_right _ (h)))))) (by decide +kernel)
set_option maxRecDepth 20000 in
theorem gX3_outerPart_X6_init : GoodIn wsX3_outerPart (wsX6_init) := ggX3_outerPart_X6_init
set_option maxRecDepth 20000 in
theorem ggX3_outerPart_X3_addMultiple : GoodIn wsX3_outerPart wsX3_addMultiple := goodIn_sub (am_cons (List.mem_cons_of_mem _ (List.mem_append_left _ (List.mem_append_left _ (List.mem_append_left _ (List.mem_of_getElem? (i := 18) rfl))))) (am_app (am_app (am_cons (List.mem_cons_of_mem _ (List.mem_append_left _ (List.mem_append_left _ (List.mem_append_left _ (List.mem_of_getElem? (i := 19) rfl))))) (am_cons (List.mem_cons_of_mem _ (List.mem_append_left _ (List.mem_append_left _ (List.mem_append_left _ (List.mem_of_getElem? (i := 20) rfl))))) (am_cons (List.mem_cons_of_mem _ (List.mem_append_left _ (List.mem_append_left _ (List.mem_append_left _ (List.mem_of_getElem? (i := 21) rfl))))) (am_cons (List.mem_cons_of_mem _ (List.mem_append_left _ (List.mem_append_left _ (List.mem_append_left _ (List.mem_of_getElem? (i := 22) rfl))))) (am_cons (List.mem_cons_of_mem _ (List.mem_append_left _ (List.mem_append_left _ (List.mem_append_left _ (List.mem_of_getElem? (i := 23) rfl))))) (am_cons (List.mem_cons_of_mem _ (List.mem_append_left _ (List.mem_append_left _ (List.mem_append_left _ (List.mem_of_getElem? (i := 2) rfl))))) (am_cons (List.mem_cons_of_mem _ (List.mem_append_left _ (List.mem_append_left _ (List.mem_append_right _ (List.mem_of_getElem? (i := 0) rfl))))) (am_cons (List.mem_cons_of_mem _ (List.mem_append_left _ (List.mem_append_left _ (List.mem_append_right _ (List.mem_of_getElem? (i := 1) rfl))))) (am_cons (List.mem_cons_of_mem _ (List.mem_append_left _ (List.mem_append_left _ (List.mem_append_left _ (List.mem_of_getElem? (i := 10) rfl))))) (am_cons (List.mem_cons_of_mem _ (List.mem_append_left _ (List.mem_append_left _ (List.mem_append_left _ (List.mem_of_getElem? (i := 11) rfl))))) (am_cons (List.mem_cons_of_mem _ (List.mem_append_left _ (List.mem_append_left _ (List.mem_append_right _ (List.mem_of_getElem? (i := 2) rfl))))) (am_cons (List.mem_cons_of_mem _ (List.mem_append_left _ (List.mem_append_left _ (List.mem_append_right _ (List.mem_of_getElem? (i := 3) rfl))))) (am_cons (List.mem_cons_of_mem _ (List.mem_append_left _ (List.mem_append_left _ (List.mem_append_right _ (List.mem_of_getElem? (i := 4) rfl))))) (am_cons (List.mem_cons_of_mem _ (List.mem_append_left _ (List.mem_append_left _ (List.mem_append_right _ (List.mem_of_getElem? (i := 5) rfl))))) (am_cons (List.mem_cons_of_mem _ (List.mem_append_left _ (List.mem_append_left _ (List.mem_append_right _ (List.mem_of_getElem? (i := 6) rfl))))) (am_cons (List.mem_cons_of_mem _ (List.mem_append_left _ (List.mem_append_left _ (List.mem_append_right _ (List.mem_of_getElem? (i := 7) rfl))))) (am_cons (List.mem_cons_of_mem _ (List.mem_append_left _ (List.mem_append_left _ (List.mem_append_right _ (List.mem_of_getElem? (i := 8) rfl))))) am_nil))))))))))))))))) (fun _ h => List.mem_cons_of_mem _ (List.mem_append_right _ (h)))) (fun _ h => List.mem_cons_of_mem _ (List.mem_append_left _ (List.mem_append_right _ (h)))))) (by decide +kernel)
set_option maxRecDepth 20000 in
theorem gX3_outerPart_X3_addMultiple : GoodIn wsX3_outerPart (wsV RX3 80 RX3 yX3_addMultiple wsX3_addMultiple) := goodIn_app (goodIn_sub (am_cons (List.mem_cons_of_mem _ (List.mem_append_left _ (List.mem_append_left _ (List.mem_append_left _ (List.mem_of_getElem? (i := 14) rfl))))) (am_cons (List.mem_cons_of_mem _ (List.mem_append_left _ (List.mem_append_left _ (List.mem_append_left _ (List.mem_of_getElem? (i := 15) rfl))))) (am_cons (List.mem_cons_of_mem _ (List.mem_append_left _ (List.mem_append_left _ (List.mem_append_left _ (List.mem_of_getElem? (i := 16) rfl))))) (am_cons (List.mem_cons_of_mem _ (List.mem_append_left _ (List.mem_append_left _ (List.mem_append_left _ (List.mem_of_getElem? (i := 17) rfl))))) am_nil)))) (by decide +kernel)) ggX3_outerPart_X3_addMultiple
theorem dX3_outerPart_0 : decode cX3_outerPart 0 = .ok (.new 18, 3) := by decide +kernel
theorem dX3_outerPart_3 : decode cX3_outerPart 3 = .ok (.dup, 1) := by decide +kernel
theorem dX3_outerPart_4 : decode cX3_outerPart 4 = .ok (.iconst 2, 1) := by decide +kernel
theorem dX3_outerPart_5 : decode cX3_outerPart 5 = .ok (.iload_n 1, 1) := by decide +kernel
theorem dX3_outerPart_6 : decode cX3_outerPart 6 = .ok (.invokespecial 77, 3) := by decide +kernel
theorem dX3_outerPart_9 : decode cX3_outerPart 9 = .ok (.astore 5, 2) := by decide +kernel
theorem dX3_outerPart_11 : decode cX3_outerPart 11 = .ok (.aload_n 0, 1) := by decide +kernel
theorem dX3_outerPart_12 : decode cX3_outerPart 12 = .ok (.aload 5, 2) := by decide +kernel
theorem dX3_outerPart_14 : decode cX3_outerPart 14 = .ok (.iload_n 2, 1) := by decide +kernel
theorem dX3_outerPart_15 : decode cX3_outerPart 15 = .ok (.iload 4, 2) := by decide +kernel
theorem dX3_outerPart_17 : decode cX3_outerPart 17 = .ok (.iload_n 3, 1) := by decide +kernel
theorem dX3_outerPart_18 : decode cX3_outerPart 18 = .ok (.isub, 1) := by decide +kernel
theorem dX3_outerPart_19 : decode cX3_outerPart 19 = .ok (.imul, 1) := by decide +kernel
theorem dX3_outerPart_20 : decode cX3_outerPart 20 = .ok (.iconst 2, 1) := by decide +kernel
theorem dX3_outerPart_21 : decode cX3_outerPart 21 = .ok (.iload 4, 2) := by decide +kernel
theorem dX3_outerPart_23 : decode cX3_outerPart 23 = .ok (.imul, 1) := by decide +kernel
theorem dX3_outerPart_24 : decode cX3_outerPart 24 = .ok (.invokevirtual 80, 3) := by decide +kernel
theorem dX3_outerPart_27 : decode cX3_outerPart 27 = .ok (.aload_n 0, 1) := by decide +kernel
theorem dX3_outerPart_28 : decode cX3_outerPart 28 = .ok (.aload 5, 2) := by decide +kernel
theorem dX3_outerPart_30 : decode cX3_outerPart 30 = .ok (.iconst 2, 1) := by decide +kernel
theorem dX3_outerPart_31 : decode cX3_outerPart 31 = .ok (.iload_n 2, 1) := by decide +kernel
theorem dX3_outerPart_32 : decode cX3_outerPart 32 = .ok (.imul, 1) := by decide +kernel
theorem dX3_outerPart_33 : decode cX3_outerPart 33 = .ok (.iload 4, 2) := by decide +kernel
theorem dX3_outerPart_35 : decode cX3_outerPart 35 = .ok (.iload_n 3, 1) := by decide +kernel
theorem dX3_outerPart_36 : decode cX3_outerPart 36 = .ok (.isub, 1) := by decide +kernel
theorem dX3_outerPart_37 : decode cX3_outerPart 37 = .ok (.imul, 1) := by decide +kernel
theorem dX3_outerPart_38 : decode cX3_outerPart 38 = .ok (.iconst 2, 1) := by decide +kernel
theorem dX3_outerPart_39 : decode cX3_outerPart 39 = .ok (.iload 4, 2) := by decide +kernel
theorem dX3_outerPart_41 : decode cX3_outerPart 41 = .ok (.imul, 1) := by decide +kernel
theorem dX3_outerPart_42 : decode cX3_outerPart 42 = .ok (.invokevirtual 80, 3) := by decide +kernel
theorem dX3_outerPart_45 : decode cX3_outerPart 45 = .ok (.aload 5, 2) := by decide +kernel
theorem dX3_outerPart_47 : decode cX3_outerPart 47 = .ok (.areturn, 1) := by decide +kernel
set_option maxRecDepth 20000 in
theorem ggX3_innerPart_X6_init : GoodIn wsX3_innerPart wsX6_init := goodIn_sub (am_cons (List.mem_cons_of_mem _ (List.mem_append_left _ (List.mem_append_left _ (List.mem_append_left _ (List.mem_of_getElem? (i := 5) rfl))))) (am_app (am_cons (List.mem_cons_of_mem _ (List.mem_append_left _ (List.mem_append_left _ (List.mem_append_left _ (List.mem_of_getElem? (i := 6) rfl))))) (am_cons (List.mem_cons_of_mem _ (List.mem_append_left _ (List.mem_append_left _ (List.mem_append_left _ (List.mem_of_getElem? (i := 7) rfl))))) (am_cons (List.mem_cons_of_mem _ (List.mem_append_left _ (List.mem_append_left _ (List.mem_append_left _ (List.mem_of_getElem? (i := 8) rfl))))) (am_cons (List.mem_cons_of_mem _ (List.mem_append_left _ (List.mem_append_left _ (List.mem_append_left _ (List.mem_of_getElem? (i := 9) rfl))))) (am_cons (List.mem_cons_of_mem _ (List.mem_append_left _ (List.mem_append_left _ (List.mem_append_left _ (List.mem_of_getElem? (i := 10) rfl))))) (am_cons (List.mem_cons_of_mem _ (List.mem_append_left _ (List.mem_append_left _ (List.mem_append_left _ (List.mem_of_getElem? (i := 11) rfl))))) (am_cons (List.mem_cons_of_mem _ (List.mem_append_left _ (List.mem_append_left _ (List.mem_append_left _ (List.mem_of_getElem? (i := 12) rfl))))) (am_cons (List.mem_cons_of_mem _ (List.mem_append_left _ (List.mem_append_left _ (List.mem_append_left _ (List.mem_of_getElem? (i := 13) rfl))))) am_nil)))))))) (fun _ h => List.mem_cons_of_mem _ (List.mem_append_left _ (List.mem_append_right _ (h)))))) (by decide +kernel)
set_option maxRecDepth 20000 in
theorem gX3_innerPart_X6_init : GoodIn wsX3_innerPart (wsX6_init) := ggX3_innerPart_X6_init
set_option maxRecDepth 20000 in
theorem ggX3_innerPart_X3_addMultiple : GoodIn wsX3_innerPart wsX3_addMultiple := goodIn_sub (am_cons (List.mem_cons_of_mem _ (List.mem_append_left _ (List.mem_append_left _ (List.mem_append_left _ (List.mem_of_getElem? (i := 18) rfl))))) (am_app (am_app (am_cons (List.mem_cons_of_mem _ (List.mem_append_left _ (List.mem_append_left _ (List.mem_append_left _ (List.mem_of_getElem? (i := 19) rfl))))) (am_cons (List.mem_cons_of_mem _ (List.mem_append_left _ (List.mem_append_left _ (List.mem_append_left _ (List.mem_of_getElem? (i := 20) rfl))))) (am_cons (List.mem_cons_of_mem _ (List.mem_append_left _ (List.mem_append_left _ (List.mem_append_left _ (List.mem_of_getElem? (i := 21) rfl))))) (am_cons (List.mem_cons_of_mem _ (List.mem_append_left _ (List.mem_append_left _ (List.mem_append_left _ (List.mem_of_getElem? (i := 22) rfl))))) (am_cons (List.mem_cons_of_mem _ (List.mem_append_left _ (List.mem_append_left _ (List.mem_append_left _ (List.mem_of_getElem? (i := 23) rfl))))) (am_cons (List.mem_cons_of_mem _ (List.mem_append_left _ (List.mem_append_left _ (List.mem_append_left _ (List.mem_of_getElem? (i := 2) rfl))))) (am_cons (List.mem_cons_of_mem _ (List.mem_append_left _ (List.mem_append_left _ (List.mem_append_right _ (List.mem_of_getElem? (i := 0) rfl))))) (am_cons (List.mem_cons_of_mem _ (List.mem_append_left _ (List.mem_append_left _ (List.mem_append_right _ (List.mem_of_getElem? (i := 1) rfl))))) (am_cons (List.mem_cons_of_mem _ (List.mem_append_left _ (List.mem_append_left _ (List.mem_append_left _ (List.mem_of_getElem? (i := 10) rfl))))) (am_cons (List.mem_cons_of_mem _ (List.mem_append_left _ (List.mem_append_left _ (List.mem_append_left _ (List.mem_of_getElem? (i := 11) rfl))))) (am_cons (List.mem_cons_of_mem _ (List.mem_append_left _ (List.mem_append_left _ (List.mem_append_right _ (List.mem_of_getElem? (i := 2) rfl))))) (am_cons (List.mem_cons_of_mem _ (List.mem_append_left _ (List.mem_append_left _ (List.mem_append_right _ (List.mem_of_getElem? (i := 3) rfl))))) (am_cons (List.mem_cons_of_mem _ (List.mem_append_left _ (List.mem_append_left _ (List.mem_append_right _ (List.mem_of_getElem? (i := 4) rfl))))) (am_cons (List.mem_cons_of_mem _ (List.mem_append_left _ (List.mem_append_left _ (List.mem_append_right _ (List.mem_of_getElem? (i := 5) rfl))))) (am_cons (List.mem_cons_of_mem _ (List.mem_append_left _ (List.mem_append_left _ (List.mem_append_right _ (List.mem_of_getElem? (i := 6) rfl))))) (am_cons (List.mem_cons_of_mem _ (List.mem_append_left _ (List.mem_append_left _ (List.mem_append_right _ (List.mem_of_getElem? (i := 7) rfl))))) (am_cons (List.mem_cons_of_mem _ (List.mem_append_left _ (List.mem_append_left _ (List.mem_append_right _ (List.mem_of_getElem? (i := 8) rfl))))) am_nil))))))))))))))))) (fun _ h => List.mem_cons_of_mem _ (List.mem_append_right _ (h)))) (fun _ h => List.mem_cons_of_mem _ (List.mem_append_left _ (List.mem_append_right _ (h)))))) (by decide +kernel)
set_option maxRecDepth 20000 in
theorem gX3_innerPart_X3_addMultiple : GoodIn wsX3_innerPart (wsV RX3 80 RX3 yX3_addMultiple wsX3_addMultiple) := goodIn_app (goodIn_sub (am_cons (List.mem_cons_of_mem _ (List.mem_append_left _ (List.mem_append_left _ (List.mem_append_left _ (List.mem_of_getElem? (i := 14) rfl))))) (am_cons (List.mem_cons_of_mem _ (List.mem_append_left _ (List.mem_append_left _ (List.mem_append_left _ (List.mem_of_getElem? (i := 15) rfl))))) (am_cons (List.mem_cons_of_mem _ (List.mem_append_left _ (List.mem_append_left _ (List.mem_append_left _ (List.mem_of_getElem? (i := 16) rfl))))) (am_cons (List.mem_cons_of_mem _ (List.mem_append_left _ (List.mem_append_left _ (List.mem_append_left _ (List.mem_of_getElem? (i := 17) rfl))))) am_nil)))) (by decide +kernel)) ggX3_innerPart_X3_addMultiple
theorem dX3_innerPart_0 : decode cX3_innerPart 0 = .ok (.new 18, 3) := by decide +kernel
theorem dX3_innerPart_3 : decode cX3_innerPart 3 = .ok (.dup, 1) := by decide +kernel
theorem dX3_innerPart_4 : decode cX3_innerPart 4 = .ok (.iconst 3, 1) := by decide +kernel
theorem dX3_innerPart_5 : decode cX3_innerPart 5 = .ok (.iload_n 1, 1) := by decide +kernel
theorem dX3_innerPart_6 : decode cX3_innerPart 6 = .ok (.invokespecial 77, 3) := by decide +kernel
theorem dX3_innerPart_9 : decode cX3_innerPart 9 = .ok (.astore 5, 2) := by decide +kernel
theorem dX3_innerPart_11 : decode cX3_innerPart 11 = .ok (.aload_n 0, 1) := by decide +kernel
theorem dX3_innerPart_12 : decode cX3_innerPart 12 = .ok (.aload 5, 2) := by decide +kernel
theorem dX3_innerPart_14 : decode cX3_innerPart 14 = .ok (.iload_n 2, 1) := by decide +kernel
theorem dX3_innerPart_15 : decode cX3_innerPart 15 = .ok (.iload 4, 2) := by decide +kernel
theorem dX3_innerPart_17 : decode cX3_innerPart 17 = .ok (.iload_n 3, 1) := by decide +kernel
theorem dX3_innerPart_18 : decode cX3_innerPart 18 = .ok (.iadd, 1) := by decide +kernel
theorem dX3_innerPart_19 : decode cX3_innerPart 19 = .ok (.imul, 1) := by decide +kernel
theorem dX3_innerPart_20 : decode cX3_innerPart 20 = .ok (.iconst 2, 1) := by decide +kernel
theorem dX3_innerPart_21 : decode cX3_innerPart 21 = .ok (.iload 4, 2) := by decide +kernel
theorem dX3_innerPart_23 : decode cX3_innerPart 23 = .ok (.imul, 1) := by decide +kernel
theorem dX3_innerPart_24 : decode cX3_innerPart 24 = .ok (.invokevirtual 80, 3) := by decide +kernel
theorem dX3_innerPart_27 : decode cX3_innerPart 27 = .ok (.aload_n 0, 1) := by decide +kernel
theorem dX3_innerPart_28 : decode cX3_innerPart 28 = .ok (.aload 5, 2) := by decide +kernel
theorem dX3_innerPart_30 : decode cX3_innerPart 30 = .ok (.iconst 2, 1) := by decide +kernel
theorem dX3_innerPart_31 : decode cX3_innerPart 31 = .ok (.iload_n 2, 1) := by decide +kernel
theorem dX3_innerPart_32 : decode cX3_innerPart 32 = .ok (.imul, 1) := by decide +kernel
theorem dX3_innerPart_33 : decode cX3_innerPart 33 = .ok (.iload 4, 2) := by decide +kernel
theorem dX3_innerPart_35 : decode cX3_innerPart 35 = .ok (.iload_n 3, 1) := by decide +kernel
theorem dX3_innerPart_36 : decode cX3_innerPart 36 = .ok (.iadd, 1) := by decide +kernel
theorem dX3_innerPart_37 : decode cX3_innerPart 37 = .ok (.imul, 1) := by decide +kernel
theorem dX3_innerPart_38 : decode cX3_innerPart 38 = .ok (.iconst 2, 1) := by decide +kernel
theorem dX3_innerPart_39 : decode cX3_innerPart 39 = .ok (.iload 4, 2) := by decide +kernel
theorem dX3_innerPart_41 : decode cX3_innerPart 41 = .ok (.imul, 1) := by decide +kernel
theorem dX3_innerPart_42 : decode cX3_innerPart 42 = .ok (.invokevirtual 80, 3) := by decide +kernel
theorem dX3_innerPart_45 : decode cX3_innerPart 45 = .ok (.aload_n 0, 1) := by decide +kernel
theorem dX3_innerPart_46 : decode cX3_innerPart 46 = .ok (.aload 5, 2) := by decide +kernel
theorem dX3_innerPart_48 : decode cX3_innerPart 48 = .ok (.iload_n 2, 1) := by decide +kernel
theorem dX3_innerPart_49 : decode cX3_innerPart 49 = .ok (.iload 4, 2) := by decide +kernel
theorem dX3_innerPart_51 : decode cX3_innerPart 51 = .ok (.iload_n 3, 1) := by decide +kernel
theorem dX3_innerPart_52 : decode cX3_innerPart 52 = .ok (.iadd, 1) := by decide +kernel
theorem dX3_innerPart_53 : decode cX3_innerPart 53 = .ok (.imul, 1) := by decide +kernel
theorem dX3_innerPart_54 : decode cX3_innerPart 54 = .ok (.iconst 2, 1) := by decide +kernel
theorem dX3_innerPart_55 : decode cX3_innerPart 55 = .ok (.iload 4, 2) := by decide +kernel
theorem dX3_innerPart_57 : decode cX3_innerPart 57 = .ok (.imul, 1) := by decide +kernel
theorem dX3_innerPart_58 : decode cX3_innerPart 58 = .ok (.isub, 1) := by decide +kernel
theorem dX3_innerPart_59 : decode cX3_innerPart 59 = .ok (.iconst 2, 1) := by decide +kernel
theorem dX3_innerPart_60 : decode cX3_innerPart 60 = .ok (.iload 4, 2) := by decide +kernel
theorem dX3_innerPart_62 : decode cX3_innerPart 62 = .ok (.imul, 1) := by decide +kernel
theorem dX3_innerPart_63 : decode cX3_innerPart 63 = .ok (.invokevirtual 80, 3) := by decide +kernel
theorem dX3_innerPart_66 : decode cX3_innerPart 66 = .ok (.aload 5, 2) := by decide +kernel
theorem dX3_innerPart_68 : decode cX3_innerPart 68 = .ok (.areturn, 1) := by decide +kernel
set_option maxRecDepth 20000 in
theorem ggX3_cagePart_X6_init : GoodIn wsX3_cagePart wsX6_init := goodIn_sub (am_cons (List.mem_cons_of_mem _ (List.mem_append_left _ (List.mem_append_left _ (List.mem_append_left _ (List.mem_of_getElem? (i := 5) rfl))))) (am_app (am_cons (List.mem_cons_of_mem _ (List.mem_append_left _ (List.mem_append_left _ (List.mem_append_left _ (List.mem_of_getElem? (i := 6) rfl))))) (am_cons (List.mem_cons_of_mem _ (List.mem_append_left _ (List.mem_append_left _ (List.mem_append_left _ (List.mem_of_getElem? (i := 7) rfl))))) (am_cons (List.mem_cons_of_mem _ (List.mem_append_left _ (List.mem_append_left _ (List.mem_append_left _ (List.mem_of_getElem? (i := 8) rfl))))) (am_cons (List.mem_cons_of_mem _ (List.mem_append_left _ (List.mem_append_left _ (List.mem_append_left _ (List.mem_of_getElem? (i := 9) rfl))))) (am_cons (List.mem_cons_of_mem _ (List.mem_append_left _ (List.mem_append_left _ (List.mem_append_left _ (List.mem_of_getElem? (i := 10) rfl))))) (am_cons (List.mem_cons_of_mem _ (List.mem_append_left _ (List.mem_append_left _ (List.mem_append_left _ (List.mem_of_getElem? (i := 11) rfl))))) (am_cons (List.mem_cons_of_mem _ (List.mem_append_left _ (List.mem_append_left _ (List.mem_append_left _ (List.mem_of_getElem? (i := 12) rfl))))) (am_cons (List.mem_cons_of_mem _ (List.mem_append_left _ (List.mem_append_left _ (List.mem_append_left _ (List.mem_of_getElem? (i := 13) rfl))))) am_nil)))))))) (fun _ h => List.mem_cons_of_mem _ (List.mem_append_left _ (List.mem_append_right _ (h)))))) (by decide +kernel)
set_option maxRecDepth 20000 in
theorem gX3_cagePart_X6_init : GoodIn wsX3_cagePart (wsX6_init) := ggX3_cagePart_X6_init
set_option maxRecDepth 20000 in
theorem ggX3_cagePart_X3_addMultiple : GoodIn wsX3_cagePart wsX3_addMultiple := goodIn_sub (am_cons (List.mem_cons_of_mem _ (List.mem_append_left _ (List.mem_append_left _ (List.mem_append_left _ (List.mem_of_getElem? (i := 18) rfl))))) (am_app (am_app (am_cons (List.mem_cons_of_mem _ (List.mem_append_left _ (List.mem_append_left _ (List.mem_append_left _ (List.mem_of_getElem? (i := 19) rfl))))) (am_cons (List.mem_cons_of_mem _ (List.mem_append_left _ (List.mem_append_left _ (List.mem_append_left _ (List.mem_of_getElem? (i := 20) rfl))))) (am_cons (List.mem_cons_of_mem _ (List.mem_append_left _ (List.mem_append_left _ (List.mem_append_left _ (List.mem_of_getElem? (i := 21) rfl))))) (am_cons (List.mem_cons_of_mem _ (List.mem_append_left _ (List.mem_append_left _ (List.mem_append_left _ (List.mem_of_getElem? (i := 22) rfl))))) (am_cons (List.mem_cons_of_mem _ (List.mem_append_left _ (List.mem_append_left _ (List.mem_append_left _ (List.mem_of_getElem? (i := 23) rfl))))) (am_cons (List.mem_cons_of_mem _ (List.mem_append_left _ (List.mem_append_left _ (List.mem_append_left _ (List.mem_of_getElem? (i := 2) rfl))))) (am_cons (List.mem_cons_of_mem _ (List.mem_append_left _ (List.mem_append_left _ (List.mem_append_right _ (List.mem_of_getElem? (i := 0) rfl))))) (am_cons (List.mem_cons_of_mem _ (List.mem_append_left _ (List.mem_append_left _ (List.mem_append_right _ (List.mem_of_getElem? (i := 1) rfl))))) (am_cons (List.mem_cons_of_mem _ (List.mem_append_left _ (List.mem_append_left _ (List.mem_append_left _ (List.mem_of_getElem? (i := 10) rfl))))) (am_cons (List.mem_cons_of_mem _ (List.mem_append_left _ (List.mem_append_left _ (List.mem_append_left _ (List.mem_of_getElem? (i := 11) rfl))))) (am_cons (List.mem_cons_of_mem _ (List.mem_append_left _ (List.mem_append_left _ (List.mem_append_right _ (List.mem_of_getElem? (i := 2) rfl))))) (am_cons (List.mem_cons_of_mem _ (List.mem_append_left _ (List.mem_append_left _ (List.mem_append_right _ (List.mem_of_getElem? (i := 3) rfl))))) (am_cons (List.mem_cons_of_mem _ (List.mem_append_left _ (List.mem_append_left _ (List.mem_append_right _ (List.mem_of_getElem? (i := 4) rfl))))) (am_cons (List.mem_cons_of_mem _ (List.mem_append_left _ (List.mem_append_left _ (List.mem_append_right _ (List.mem_of_getElem? (i := 5) rfl))))) (am_cons (List.mem_cons_of_mem _ (List.mem_append_left _ (List.mem_append_left _ (List.mem_append_right _ (List.mem_of_getElem? (i := 6) rfl))))) (am_cons (List.mem_cons_of_mem _ (List.mem_append_left _ (List.mem_append_left _ (List.mem_append_right _ (List.mem_of_getElem? (i := 7) rfl))))) (am_cons (List.mem_cons_of_mem _ (List.mem_append_left _ (List.mem_append_left _ (List.mem_append_right _ (List.mem_of_getElem? (i := 8) rfl))))) am_nil))))))))))))))))) (fun _ h => List.mem_cons_of_mem _ (List.mem_append_right _ (h)))) (fun _ h => List.mem_cons_of_mem _ (List.mem_append_left _ (List.mem_append_right _ (h)))))) (by decide +kernel)
set_option maxRecDepth 20000 in
theorem gX3_cagePart_X3_addMultiple : GoodIn wsX3_cagePart (wsV RX3 80 RX3 yX3_addMultiple wsX3_addMultiple) := goodIn_app (goodIn_sub (am_cons (List.mem_cons_of_mem _ (List.mem_append_left _ (List.mem_append_left _ (List.mem_append_left _ (List.mem_of_getElem? (i := 14) rfl))))) (am_cons (List.mem_cons_of_mem _ (List.mem_append_left _ (List.mem_append_left _ (List.mem_append_left _ (List.mem_of_getElem? (i := 15) rfl))))) (am_cons (List.mem_cons_of_mem _ (List.mem_append_left _ (List.mem_append_left _ (List.mem_append_left _ (List.mem_of_getElem? (i := 16) rfl))))) (am_cons (List.mem_cons_of_mem _ (List.mem_append_left _ (List.mem_append_left _ (List.mem_append_left _ (List.mem_of_getElem? (i := 17) rfl))))) am_nil)))) (by decide +kernel)) ggX3_cagePart_X3_addMultiple
theorem dX3_cagePart_0 : decode cX3_cagePart 0 = .ok (.new 18, 3) := by decide +kernel
theorem dX3_cagePart_3 : decode cX3_cagePart 3 = .ok (.dup, 1) := by decide +kernel
theorem dX3_cagePart_4 : decode cX3_cagePart 4 = .ok (.iconst 4, 1) := by decide +kernel
theorem dX3_cagePart_5 : decode cX3_cagePart 5 = .ok (.iload_n 1, 1) := by decide +kernel
theorem dX3_cagePart_6 : decode cX3_cagePart 6 = .ok (.invokespecial 77, 3) := by decide +kernel
theorem dX3_cagePart_9 : decode cX3_cagePart 9 = .ok (.astore 4, 2) := by decide +kernel
theorem dX3_cagePart_11 : decode cX3_cagePart 11 = .ok (.aload_n 0, 1) := by decide +kernel
theorem dX3_cagePart_12 : decode cX3_cagePart 12 = .ok (.aload 4, 2) := by decide +kernel
theorem dX3_cagePart_14 : decode cX3_cagePart 14 = .ok (.iload_n 3, 1) := by decide +kernel
theorem dX3_cagePart_15 : decode cX3_cagePart 15 = .ok (.iload_n 2, 1) := by decide +kernel
theorem dX3_cagePart_16 : decode cX3_cagePart 16 = .ok (.isub, 1) := by decide +kernel
theorem dX3_cagePart_17 : decode cX3_cagePart 17 = .ok (.iconst 2, 1) := by decide +kernel
theorem dX3_cagePart_18 : decode cX3_cagePart 18 = .ok (.iload_n 3, 1) := by decide +kernel
theorem dX3_cagePart_19 : decode cX3_cagePart 19 = .ok (.imul, 1) := by decide +kernel
theorem dX3_cagePart_20 : decode cX3_cagePart 20 = .ok (.invokevirtual 80, 3) := by decide +kernel
theorem dX3_cagePart_23 : decode cX3_cagePart 23 = .ok (.aload 4, 2) := by decide +kernel
theorem dX3_cagePart_25 : decode cX3_cagePart 25 = .ok (.areturn, 1) := by decide +kernel
set_option maxRecDepth 20000 in
theorem ggX3_ballsPart_X6_init : GoodIn wsX3_ballsPart wsX6_init := goodIn_sub (am_cons (List.mem_cons_of_mem _ (List.mem_append_left _ (List.mem_append_left _ (List.mem_append_left _ (List.mem_of_getElem? (i := 5) rfl))))) (am_app (am_cons (List.mem_cons_of_mem _ (List.mem_append_left _ (List.mem_append_left _ (List.mem_append_left _ (List.mem_of_getElem? (i := 6) rfl))))) (am_cons (List.mem_cons_of_mem _ (List.mem_append_left _ (List.mem_append_left _ (List.mem_append_left _ (List.mem_of_getElem? (i := 7) rfl))))) (am_cons (List.mem_cons_of_mem _ (List.mem_append_left _ (List.mem_append_left _ (List.mem_append_left _ (List.mem_of_getElem? (i := 8) rfl))))) (am_cons (List.mem_cons_of_mem _ (List.mem_append_left _ (List.mem_append_left _ (List.mem_append_left _ (List.mem_of_getElem? (i := 9) rfl))))) (am_cons (List.mem_cons_of_mem _ (List.mem_append_left _ (List.mem_append_left _ (List.mem_append_left _ (List.mem_of_getElem? (i := 10) rfl))))) (am_cons (List.mem_cons_of_mem _ (List.mem_append_left _ (List.mem_append_left _ (List.mem_append_left _ (List.mem_of_getElem? (i := 11) rfl))))) (am_cons (List.mem_cons_of_mem _ (List.mem_append_left _ (List.mem_append_left _ (List.mem_append_left _ (List.mem_of_getElem? (i := 12) rfl))))) (am_cons (List.mem_cons_of_mem _ (List.mem_append_left _ (List.mem_append_left _ (List.mem_append_left _ (List.mem_of_getElem? (i := 13) rfl))))) am_nil)))))))) (fun _ h => List.mem_cons_of_mem _ (List.mem_append_left _ (List.mem_append_right _ (h)))))) (by decide +kernel)
set_option maxRecDepth 20000 in
theorem gX3_ballsPart_X6_init : GoodIn wsX3_ballsPart (wsX6_init) := ggX3_ballsPart_X6_init
set_option maxRecDepth 20000 in
theorem ggX3_ballsPart_X3_addMultiple : GoodIn wsX3_ballsPart wsX3_addMultiple := goodIn_sub (am_cons (List.mem_cons_of_mem _ (List.mem_append_left _ (List.mem_append_left _ (List.mem_append_left _ (List.mem_of_getElem? (i := 18) rfl))))) (am_app (am_app (am_cons (List.mem_cons_of_mem _ (List.mem_append_left _ (List.mem_append_left _ (List.mem_append_left _ (List.mem_of_getElem? (i := 19) rfl))))) (am_cons (List.mem_cons_of_mem _ (List.mem_append_left _ (List.mem_append_left _ (List.mem_append_left _ (List.mem_of_getElem? (i := 20) rfl))))) (am_cons (List.mem_cons_of_mem _ (List.mem_append_left _ (List.mem_append_left _ (List.mem_append_left _ (List.mem_of_getElem? (i := 21) rfl))))) (am_cons (List.mem_cons_of_mem _ (List.mem_append_left _ (List.mem_append_left _ (List.mem_append_left _ (List.mem_of_getElem? (i := 22) rfl))))) (am_cons (List.mem_cons_of_mem _ (List.mem_append_left _ (List.mem_append_left _ (List.mem_append_left _ (List.mem_of_getElem? (i := 23) rfl))))) (am_cons (List.mem_cons_of_mem _ (List.mem_append_left _ (List.mem_append_left _ (List.mem_append_left _ (List.mem_of_getElem? (i := 2) rfl))))) (am_cons (List.mem_cons_of_mem _ (List.mem_append_left _ (List.mem_append_left _ (List.mem_append_right _ (List.mem_of_getElem? (i := 0) rfl))))) (am_cons (List.mem_cons_of_mem _ (List.mem_append_left _ (List.mem_append_left _ (List.mem_append_right _ (List.mem_of_getElem? (i := 1) rfl))))) (am_cons (List.mem_cons_of_mem _ (List.mem_append_left _ (List.mem_append_left _ (List.mem_append_left _ (List.mem_of_getElem? (i := 10) rfl))))) (am_cons (List.mem_cons_of_mem _ (List.mem_append_left _ (List.mem_append_left _ (List.mem_append_left _ (List.mem_of_getElem? (i := 11) rfl))))) (am_cons (List.mem_cons_of_mem _ (List.mem_append_left _ (List.mem_append_left _ (List.mem_append_right _ (List.mem_of_getElem? (i := 2) rfl))))) (am_cons (List.mem_cons_of_mem _ (List.mem_append_left _ (List.mem_append_left _ (List.mem_append_right _ (List.mem_of_getElem? (i := 3) rfl))))) (am_cons (List.mem_cons_of_mem _ (List.mem_append_left _ (List.mem_append_left _ (List.mem_append_right _ (List.mem_of_getElem? (i := 4) rfl))))) (am_cons (List.mem_cons_of_mem _ (List.mem_append_left _ (List.mem_append_left _ (List.mem_append_right _ (List.mem_of_getElem? (i := 5) rfl))))) (am_cons (List.mem_cons_of_mem _ (List.mem_append_left _ (List.mem_append_left _ (List.mem_append_right _ (List.mem_of_getElem? (i := 6) rfl))))) (am_cons (List.mem_cons_of_mem _ (List.mem_append_left _ (List.mem_append_left _ (List.mem_append_right _ (List.mem_of_getElem? (i := 7) rfl))))) (am_cons (List.mem_cons_of_mem _ (List.mem_append_left _ (List.mem_append_left _ (List.mem_append_right _ (List.mem_of_getElem? (i := 8) rfl))))) am_nil))))))))))))))))) (fun _ h => List.mem_cons_of_mem _ (List.mem_append_right _ (h)))) (fun _ h => List.mem_cons_of_mem _ (List.mem_append_left _ (List.mem_append_right _ (h)))))) (by decide +kernel)
set_option maxRecDepth 20000 in
theorem gX3_ballsPart_X3_addMultiple : GoodIn wsX3_ballsPart (wsV RX3 80 RX3 yX3_addMultiple wsX3_addMultiple) := goodIn_app (goodIn_sub (am_cons (List.mem_cons_of_mem _ (List.mem_append_left _ (List.mem_append_left _ (List.mem_append_left _ (List.mem_of_getElem? (i := 14) rfl))))) (am_cons (List.mem_cons_of_mem _ (List.mem_append_left _ (List.mem_append_left _ (List.mem_append_left _ (List.mem_of_getElem? (i := 15) rfl))))) (am_cons (List.mem_cons_of_mem _ (List.mem_append_left _ (List.mem_append_left _ (List.mem_append_left _ (List.mem_of_getElem? (i := 16) rfl))))) (am_cons (List.mem_cons_of_mem _ (List.mem_append_left _ (List.mem_append_left _ (List.mem_append_left _ (List.mem_of_getElem? (i := 17) rfl))))) am_nil)))) (by decide +kernel)) ggX3_ballsPart_X3_addMultiple
theorem dX3_ballsPart_0 : decode cX3_ballsPart 0 = .ok (.new 18, 3) := by decide +kernel
theorem dX3_ballsPart_3 : decode cX3_ballsPart 3 = .ok (.dup, 1) := by decide +kernel
theorem dX3_ballsPart_4 : decode cX3_ballsPart 4 = .ok (.iconst 5, 1) := by decide +kernel
theorem dX3_ballsPart_5 : decode cX3_ballsPart 5 = .ok (.iload_n 1, 1) := by decide +kernel
theorem dX3_ballsPart_6 : decode cX3_ballsPart 6 = .ok (.invokespecial 77, 3) := by decide +kernel
theorem dX3_ballsPart_9 : decode cX3_ballsPart 9 = .ok (.astore 4, 2) := by decide +kernel
theorem dX3_ballsPart_11 : decode cX3_ballsPart 11 = .ok (.aload_n 0, 1) := by decide +kernel
theorem dX3_ballsPart_12 : decode cX3_ballsPart 12 = .ok (.aload 4, 2) := by decide +kernel
theorem dX3_ballsPart_14 : decode cX3_ballsPart 14 = .ok (.iload_n 3, 1) := by decide +kernel
theorem dX3_ballsPart_15 : decode cX3_ballsPart 15 = .ok (.iload_n 3, 1) := by decide +kernel
theorem dX3_ballsPart_16 : decode cX3_ballsPart 16 = .ok (.imul, 1) := by decide +kernel
theorem dX3_ballsPart_17 : decode cX3_ballsPart 17 = .ok (.iload_n 2, 1) := by decide +kernel
theorem dX3_ballsPart_18 : decode cX3_ballsPart 18 = .ok (.iload_n 2, 1) := by decide +kernel
theorem dX3_ballsPart_19 : decode cX3_ballsPart 19 = .ok (.imul, 1) := by decide +kernel
theorem dX3_ballsPart_20 : decode cX3_ballsPart 20 = .ok (.isub, 1) := by decide +kernel
theorem dX3_ballsPart_21 : decode cX3_ballsPart 21 = .ok (.iconst 2, 1) := by decide +kernel
theorem dX3_ballsPart_22 : decode cX3_ballsPart 22 = .ok (.iload_n 2, 1) := by decide +kernel
theorem dX3_ballsPart_23 : decode cX3_ballsPart 23 = .ok (.imul, 1) := by decide +kernel
theorem dX3_ballsPart_24 : decode cX3_ballsPart 24 = .ok (.iload_n 3, 1) := by decide +kernel
theorem dX3_ballsPart_25 : decode cX3_ballsPart 25 = .ok (.imul, 1) := by decide +kernel
theorem dX3_ballsPart_26 : decode cX3_ballsPart 26 = .ok (.invokevirtual 80, 3) := by decide +kernel
theorem dX3_ballsPart_29 : decode cX3_ballsPart 29 = .ok (.aload_n 0, 1) := by decide +kernel
theorem dX3_ballsPart_30 : decode cX3_ballsPart 30 = .ok (.aload 4, 2) := by decide +kernel
theorem dX3_ballsPart_32 : decode cX3_ballsPart 32 = .ok (.iconst 2, 1) := by decide +kernel
theorem dX3_ballsPart_33 : decode cX3_ballsPart 33 = .ok (.iload_n 3, 1) := by decide +kernel
theorem dX3_ballsPart_34 : decode cX3_ballsPart 34 = .ok (.iload_n 3, 1) := by decide +kernel
theorem dX3_ballsPart_35 : decode cX3_ballsPart 35 = .ok (.imul, 1) := by decide +kernel
theorem dX3_ballsPart_36 : decode cX3_ballsPart 36 = .ok (.iload_n 2, 1) := by decide +kernel
theorem dX3_ballsPart_37 : decode cX3_ballsPart 37 = .ok (.iload_n 2, 1) := by decide +kernel
theorem dX3_ballsPart_38 : decode cX3_ballsPart 38 = .ok (.imul, 1) := by decide +kernel
theorem dX3_ballsPart_39 : decode cX3_ballsPart 39 = .ok (.isub, 1) := by decide +kernel
theorem dX3_ballsPart_40 : decode cX3_ballsPart 40 = .ok (.imul, 1) := by decide +kernel
theorem dX3_ballsPart_41 : decode cX3_ballsPart 41 = .ok (.iconst 2, 1) := by decide +kernel
theorem dX3_ballsPart_42 : decode cX3_ballsPart 42 = .ok (.iload_n 2, 1) := by decide +kernel
theorem dX3_ballsPart_43 : decode cX3_ballsPart 43 = .ok (.imul, 1) := by decide +kernel
theorem dX3_ballsPart_44 : decode cX3_ballsPart 44 = .ok (.iload_n 3, 1) := by decide +kernel
theorem dX3_ballsPart_45 : decode cX3_ballsPart 45 = .ok (.imul, 1) := by decide +kernel
theorem dX3_ballsPart_46 : decode cX3_ballsPart 46 = .ok (.invokevirtual 80, 3) := by decide +kernel
theorem dX3_ballsPart_49 : decode cX3_ballsPart 49 = .ok (.aload 4, 2) := by decide +kernel
theorem dX3_ballsPart_51 : decode cX3_ballsPart 51 = .ok (.areturn, 1) := by decide +kernel
set_option maxRecDepth 20000 in
theorem ggX3_addMultiple_X6_addTone : GoodIn wsX3_addMultiple wsX6_addTone := goodIn_sub (am_cons (List.mem_cons_of_mem _ (List.mem_append_left _ (List.mem_append_left _ (List.mem_of_getElem? (i := 6) rfl)))) (am_app (am_cons (List.mem_cons_of_mem _ (List.mem_append_left _ (List.mem_append_left _ (List.mem_of_getElem? (i := 7) rfl)))) (am_cons (List.mem_cons_of_mem _ (List.mem_append_left _ (List.mem_append_left _ (List.mem_of_getElem? (i := 8) rfl)))) (am_cons (List.mem_cons_of_mem _ (List.mem_append_left _ (List.mem_append_left _ (List.mem_of_getElem? (i := 9) rfl)))) (am_cons (List.mem_cons_of_mem _ (List.mem_append_left _ (List.mem_append_left _ (List.mem_of_getElem? (i := 10) rfl)))) (am_cons (List.mem_cons_of_mem _ (List.mem_append_left _ (List.mem_append_left _ (List.mem_of_getElem? (i := 11) rfl)))) (am_cons (List.mem_cons_of_mem _ (List.mem_append_left _ (List.mem_append_left _ (List.mem_of_getElem? (i := 12) rfl)))) (am_cons (List.mem_cons_of_mem _ (List.mem_append_left _ (List.mem_append_left _ (List.mem_of_getElem? (i := 13) rfl)))) (am_cons (List.mem_cons_of_mem _ (List.mem_append_left _ (List.mem_append_left _ (List.mem_of_getElem? (i := 14) rfl)))) (am_cons (List.mem_cons_of_mem _ (List.mem_append_left _ (List.mem_append_left _ (List.mem_of_getElem? (i := 15) rfl)))) (am_cons (List.mem_cons_of_mem _ (List.mem_append_left _ (List.mem_append_left _ (List.mem_of_getElem? (i := 16) rfl)))) am_nil)))))))))) (fun _ h => List.mem_cons_of_mem _ (List.mem_append_right _ (h))))) (by decide +kernel)
set_option maxRecDepth 20000 in
theorem gX3_addMultiple_X6_addTone : GoodIn wsX3_addMultiple (wsV RX3 87 RX6 yX6_addTone wsX6_addTone) := goodIn_app (goodIn_sub (am_cons (List.mem_cons_of_mem _ (List.mem_append_left _ (List.mem_append_left _ (List.mem_of_getElem? (i := 2) rfl)))) (am_cons (List.mem_cons_of_mem _ (List.mem_append_left _ (List.mem_append_left _ (List.mem_of_getElem? (i := 3) rfl)))) (am_cons (List.mem_cons_of_mem _ (List.mem_append_left _ (List.mem_append_left _ (List.mem_of_getElem? (i := 4) rfl)))) (am_cons (List.mem_cons_of_mem _ (List.mem_append_left _ (List.mem_append_left _ (List.mem_of_getElem? (i := 5) rfl)))) am_nil)))) (by decide +kernel)) ggX3_addMultiple_X6_addTone
theorem dX3_addMultiple_0 : decode cX3_addMultiple 0 = .ok (.aload_n 1, 1) := by decide +kernel
theorem dX3_addMultiple_1 : decode cX3_addMultiple 1 = .ok (.aload_n 0, 1) := by decide +kernel
theorem dX3_addMultiple_2 : decode cX3_addMultiple 2 = .ok (.getfield 9, 3) := by decide +kernel
theorem dX3_addMultiple_5 : decode cX3_addMultiple 5 = .ok (.aload_n 1, 1) := by decide +kernel
theorem dX3_addMultiple_6 : decode cX3_addMultiple 6 = .ok (.getfield 84, 3) := by decide +kernel
theorem dX3_addMultiple_9 : decode cX3_addMultiple 9 = .ok (.laload, 1) := by decide +kernel
theorem dX3_addMultiple_10 : decode cX3_addMultiple 10 = .ok (.iload_n 2, 1) := by decide +kernel
theorem dX3_addMultiple_11 : decode cX3_addMultiple 11 = .ok (.i2l, 1) := by decide +kernel
theorem dX3_addMultiple_12 : decode cX3_addMultiple 12 = .ok (.lmul, 1) := by decide +kernel
theorem dX3_addMultiple_13 : decode cX3_addMultiple 13 = .ok (.aload_n 0, 1) := by decide +kernel
theorem dX3_addMultiple_14 : decode cX3_addMultiple 14 = .ok (.getfield 15, 3) := by decide +kernel
theorem dX3_addMultiple_17 : decode cX3_addMultiple 17 = .ok (.aload_n 1, 1) := by decide +kernel
theorem dX3_addMultiple_18 : decode cX3_addMultiple 18 = .ok (.getfield 84, 3) := by decide +kernel
theorem dX3_addMultiple_21 : decode cX3_addMultiple 21 = .ok (.laload, 1) := by decide +kernel
theorem dX3_addMultiple_22 : decode cX3_addMultiple 22 = .ok (.iload_n 3, 1) := by decide +kernel
theorem dX3_addMultiple_23 : decode cX3_addMultiple 23 = .ok (.i2l, 1) := by decide +kernel
theorem dX3_addMultiple_24 : decode cX3_addMultiple 24 = .ok (.lmul, 1) := by decide +kernel
theorem dX3_addMultiple_25 : decode cX3_addMultiple 25 = .ok (.invokevirtual 87, 3) := by decide +kernel
theorem dX3_addMultiple_28 : decode cX3_addMultiple 28 = .ok (.return_, 1) := by decide +kernel
theorem dX4_init_0 : decode cX4_init 0 = .ok (.aload_n 0, 1) := by decide +kernel
theorem dX4_init_1 : decode cX4_init 1 = .ok (.invokespecial 3, 3) := by decide +kernel
theorem dX4_init_4 : decode cX4_init 4 = .ok (.aload_n 0, 1) := by decide +kernel
theorem dX4_init_5 : decode cX4_init 5 = .ok (.bipush 120, 2) := by decide +kernel
theorem dX4_init_7 : decode cX4_init 7 = .ok (.newarray .int, 2) := by decide +kernel
theorem dX4_init_9 : decode cX4_init 9 = .ok (.putfield 9, 3) := by decide +kernel
theorem dX4_init_12 : decode cX4_init 12 = .ok (.return_, 1) := by decide +kernel
set_option maxRecDepth 20000 in
theorem ggX4_add_X8_within : GoodIn wsX4_add wsX8_within := goodIn_sub (am_cons (List.mem_cons_of_mem _ (List.mem_append_left _ (List.mem_of_getElem? (i := 5) rfl))) (am_nil)) (by decide +kernel)
set_option maxRecDepth 20000 in
theorem gX4_add_X8_within_n16 : GoodIn wsX4_add (wsX8_within) := ggX4_add_X8_within
set_option maxRecDepth 20000 in
theorem ggX4_add_X4_mendUpTo : GoodIn wsX4_add wsX4_mendUpTo := goodIn_sub (am_cons (List.mem_cons_of_mem _ (List.mem_append_left _ (List.mem_of_getElem? (i := 10) rfl))) (am_app (am_cons (List.mem_cons_of_mem _ (List.mem_append_left _ (List.mem_of_getElem? (i := 11) rfl))) (am_cons (List.mem_cons_of_mem _ (List.mem_append_left _ (List.mem_of_getElem? (i := 12) rfl))) (am_cons (List.mem_cons_of_mem _ (List.mem_append_left _ (List.mem_of_getElem? (i := 13) rfl))) (am_cons (List.mem_cons_of_mem _ (List.mem_append_left _ (List.mem_of_getElem? (i := 14) rfl))) (am_cons (List.mem_cons_of_mem _ (List.mem_append_left _ (List.mem_of_getElem? (i := 15) rfl))) (am_cons (List.mem_cons_of_mem _ (List.mem_append_left _ (List.mem_of_getElem? (i := 16) rfl))) (am_cons (List.mem_cons_of_mem _ (List.mem_append_left _ (List.mem_of_getElem? (i := 17) rfl))) (am_cons (List.mem_cons_of_mem _ (List.mem_append_left _ (List.mem_of_getElem? (i := 18) rfl))) (am_cons (List.mem_cons_of_mem _ (List.mem_append_left _ (List.mem_of_getElem? (i := 19) rfl))) (am_cons (List.mem_cons_of_mem _ (List.mem_append_left _ (List.mem_of_getElem? (i := 9) rfl))) (am_cons (List.mem_cons_of_mem _ (List.mem_append_left _ (List.mem_of_getElem? (i := 20) rfl))) am_nil))))))))))) (fun _ h => List.mem_cons_of_mem _ (List.mem_append_right _ (h))))) (by decide +kernel)
set_option maxRecDepth 20000 in
theorem gX4_add_X4_mendUpTo : GoodIn wsX4_add (wsV RX4 27 RX4 yX4_mendUpTo wsX4_mendUpTo) := goodIn_app (goodIn_sub (am_cons (List.mem_cons_of_mem _ (List.mem_append_left _ (List.mem_of_getElem? (i := 6) rfl))) (am_cons (List.mem_cons_of_mem _ (List.mem_append_left _ (List.mem_of_getElem? (i := 7) rfl))) (am_cons (List.mem_cons_of_mem _ (List.mem_append_left _ (List.mem_of_getElem? (i := 8) rfl))) (am_cons (List.mem_cons_of_mem _ (List.mem_append_left _ (List.mem_of_getElem? (i := 9) rfl))) am_nil)))) (by decide +kernel)) ggX4_add_X4_mendUpTo
set_option maxRecDepth 20000 in
theorem ggX4_add_X4_keep : GoodIn wsX4_add wsX4_keep := goodIn_sub (am_cons (List.mem_cons_of_mem _ (List.mem_append_left _ (List.mem_of_getElem? (i := 20) rfl))) (am_app (am_cons (List.mem_cons_of_mem _ (List.mem_append_left _ (List.mem_of_getElem? (i := 11) rfl))) (am_cons (List.mem_cons_of_mem _ (List.mem_append_left _ (List.mem_of_getElem? (i := 12) rfl))) am_nil)) (fun _ h => List.mem_cons_of_mem _ (List.mem_append_right _ (h))))) (by decide +kernel)
set_option maxRecDepth 20000 in
theorem gX4_add_X4_keep : GoodIn wsX4_add (wsV RX4 31 RX4 yX4_keep wsX4_keep) := goodIn_app (goodIn_sub (am_cons (List.mem_cons_of_mem _ (List.mem_append_left _ (List.mem_of_getElem? (i := 17) rfl))) (am_cons (List.mem_cons_of_mem _ (List.mem_append_left _ (List.mem_of_getElem? (i := 18) rfl))) (am_cons (List.mem_cons_of_mem _ (List.mem_append_left _ (List.mem_of_getElem? (i := 19) rfl))) (am_cons (List.mem_cons_of_mem _ (List.mem_append_left _ (List.mem_of_getElem? (i := 9) rfl))) am_nil)))) (by decide +kernel)) ggX4_add_X4_keep
theorem dX4_add_0 : decode cX4_add 0 = .ok (.iload_n 1, 1) := by decide +kernel
theorem dX4_add_1 : decode cX4_add 1 = .ok (.iconst 0, 1) := by decide +kernel
theorem dX4_add_2 : decode cX4_add 2 = .ok (.ldc 15, 2) := by decide +kernel
theorem dX4_add_4 : decode cX4_add 4 = .ok (.invokestatic 16, 3) := by decide +kernel
theorem dX4_add_7 : decode cX4_add 7 = .ok (.ifCond .eq 18, 3) := by decide +kernel
theorem dX4_add_10 : decode cX4_add 10 = .ok (.aload_n 0, 1) := by decide +kernel
theorem dX4_add_11 : decode cX4_add 11 = .ok (.getfield 20, 3) := by decide +kernel
theorem dX4_add_14 : decode cX4_add 14 = .ok (.ifCond .le 13, 3) := by decide +kernel
theorem dX4_add_17 : decode cX4_add 17 = .ok (.iload_n 1, 1) := by decide +kernel
theorem dX4_add_18 : decode cX4_add 18 = .ok (.aload_n 0, 1) := by decide +kernel
theorem dX4_add_19 : decode cX4_add 19 = .ok (.getfield 24, 3) := by decide +kernel
theorem dX4_add_22 : decode cX4_add 22 = .ok (.if_icmp .gt 5, 3) := by decide +kernel
theorem dX4_add_25 : decode cX4_add 25 = .ok (.iconst (-1), 1) := by decide +kernel
theorem dX4_add_26 : decode cX4_add 26 = .ok (.ireturn, 1) := by decide +kernel
theorem dX4_add_27 : decode cX4_add 27 = .ok (.aload_n 0, 1) := by decide +kernel
theorem dX4_add_28 : decode cX4_add 28 = .ok (.getfield 20, 3) := by decide +kernel
theorem dX4_add_31 : decode cX4_add 31 = .ok (.bipush 60, 2) := by decide +kernel
theorem dX4_add_33 : decode cX4_add 33 = .ok (.if_icmp .lt 6, 3) := by decide +kernel
theorem dX4_add_36 : decode cX4_add 36 = .ok (.bipush (-3), 2) := by decide +kernel
theorem dX4_add_38 : decode cX4_add 38 = .ok (.ireturn, 1) := by decide +kernel
theorem dX4_add_39 : decode cX4_add 39 = .ok (.aload_n 0, 1) := by decide +kernel
theorem dX4_add_40 : decode cX4_add 40 = .ok (.iload_n 1, 1) := by decide +kernel
theorem dX4_add_41 : decode cX4_add 41 = .ok (.invokevirtual 27, 3) := by decide +kernel
theorem dX4_add_44 : decode cX4_add 44 = .ok (.aload_n 0, 1) := by decide +kernel
theorem dX4_add_45 : decode cX4_add 45 = .ok (.iload_n 1, 1) := by decide +kernel
theorem dX4_add_46 : decode cX4_add 46 = .ok (.invokevirtual 31, 3) := by decide +kernel
theorem dX4_add_49 : decode cX4_add 49 = .ok (.aload_n 0, 1) := by decide +kernel
theorem dX4_add_50 : decode cX4_add 50 = .ok (.iload_n 1, 1) := by decide +kernel
theorem dX4_add_51 : decode cX4_add 51 = .ok (.putfield 24, 3) := by decide +kernel
theorem dX4_add_54 : decode cX4_add 54 = .ok (.aload_n 0, 1) := by decide +kernel
theorem dX4_add_55 : decode cX4_add 55 = .ok (.dup, 1) := by decide +kernel
theorem dX4_add_56 : decode cX4_add 56 = .ok (.getfield 20, 3) := by decide +kernel
theorem dX4_add_59 : decode cX4_add 59 = .ok (.iconst 1, 1) := by decide +kernel
theorem dX4_add_60 : decode cX4_add 60 = .ok (.iadd, 1) := by decide +kernel
theorem dX4_add_61 : decode cX4_add 61 = .ok (.putfield 20, 3) := by decide +kernel
theorem dX4_add_64 : decode cX4_add 64 = .ok (.aload_n 0, 1) := by decide +kernel
theorem dX4_add_65 : decode cX4_add 65 = .ok (.getfield 20, 3) := by decide +kernel
theorem dX4_add_68 : decode cX4_add 68 = .ok (.ireturn, 1) := by decide +kernel
theorem dX4_clear_0 : decode cX4_clear 0 = .ok (.aload_n 0, 1) := by decide +kernel
theorem dX4_clear_1 : decode cX4_clear 1 = .ok (.getfield 20, 3) := by decide +kernel
theorem dX4_clear_4 : decode cX4_clear 4 = .ok (.istore_n 1, 1) := by decide +kernel
theorem dX4_clear_5 : decode cX4_clear 5 = .ok (.aload_n 0, 1) := by decide +kernel
theorem dX4_clear_6 : decode cX4_clear 6 = .ok (.iconst 0, 1) := by decide +kernel
theorem dX4_clear_7 : decode cX4_clear 7 = .ok (.putfield 20, 3) := by decide +kernel
theorem dX4_clear_10 : decode cX4_clear 10 = .ok (.aload_n 0, 1) := by decide +kernel
theorem dX4_clear_11 : decode cX4_clear 11 = .ok (.iconst 0, 1) := by decide +kernel
theorem dX4_clear_12 : decode cX4_clear 12 = .ok (.putfield 34, 3) := by decide +kernel
theorem dX4_clear_15 : decode cX4_clear 15 = .ok (.iload_n 1, 1) := by decide +kernel
theorem dX4_clear_16 : decode cX4_clear 16 = .ok (.ireturn, 1) := by decide +kernel
theorem dX4_hasTurns_0 : decode cX4_hasTurns 0 = .ok (.iload_n 1, 1) := by decide +kernel
theorem dX4_hasTurns_1 : decode cX4_hasTurns 1 = .ok (.ifCond .lt 23, 3) := by decide +kernel
theorem dX4_hasTurns_4 : decode cX4_hasTurns 4 = .ok (.iload_n 2, 1) := by decide +kernel
theorem dX4_hasTurns_5 : decode cX4_hasTurns 5 = .ok (.ifCond .le 19, 3) := by decide +kernel
theorem dX4_hasTurns_8 : decode cX4_hasTurns 8 = .ok (.iload_n 1, 1) := by decide +kernel
theorem dX4_hasTurns_9 : decode cX4_hasTurns 9 = .ok (.aload_n 0, 1) := by decide +kernel
theorem dX4_hasTurns_10 : decode cX4_hasTurns 10 = .ok (.getfield 34, 3) := by decide +kernel
theorem dX4_hasTurns_13 : decode cX4_hasTurns 13 = .ok (.iconst 1, 1) := by decide +kernel
theorem dX4_hasTurns_14 : decode cX4_hasTurns 14 = .ok (.isub, 1) := by decide +kernel
theorem dX4_hasTurns_15 : decode cX4_hasTurns 15 = .ok (.iload_n 2, 1) := by decide +kernel
theorem dX4_hasTurns_16 : decode cX4_hasTurns 16 = .ok (.isub, 1) := by decide +kernel
theorem dX4_hasTurns_17 : decode cX4_hasTurns 17 = .ok (.if_icmp .gt 7, 3) := by decide +kernel
theorem dX4_hasTurns_20 : decode cX4_hasTurns 20 = .ok (.iconst 1, 1) := by decide +kernel
theorem dX4_hasTurns_21 : decode cX4_hasTurns 21 = .ok (.goto 4, 3) := by decide +kernel
theorem dX4_hasTurns_24 : decode cX4_hasTurns 24 = .ok (.iconst 0, 1) := by decide +kernel
theorem dX4_hasTurns_25 : decode cX4_hasTurns 25 = .ok (.ireturn, 1) := by decide +kernel
set_option maxRecDepth 20000 in
theorem ggX4_endOf_X4_hasTurns : GoodIn wsX4_endOf wsX4_hasTurns := goodIn_sub (am_cons (List.mem_cons_of_mem _ (List.mem_append_left _ (List.mem_of_getElem? (i := 6) rfl))) (am_app (am_cons (List.mem_cons_of_mem _ (List.mem_append_left _ (List.mem_of_getElem? (i := 7) rfl))) am_nil) (fun _ h => List.mem_cons_of_mem _ (List.mem_append_right _ (h))))) (by decide +kernel)
set_option maxRecDepth 20000 in
theorem gX4_endOf_X4_hasTurns : GoodIn wsX4_endOf (wsV RX4 37 RX4 yX4_hasTurns wsX4_hasTurns) := goodIn_app (goodIn_sub (am_cons (List.mem_cons_of_mem _ (List.mem_append_left _ (List.mem_of_getElem? (i := 2) rfl))) (am_cons (List.mem_cons_of_mem _ (List.mem_append_left _ (List.mem_of_getElem? (i := 3) rfl))) (am_cons (List.mem_cons_of_mem _ (List.mem_append_left _ (List.mem_of_getElem? (i := 4) rfl))) (am_cons (List.mem_cons_of_mem _ (List.mem_append_left _ (List.mem_of_getElem? (i := 5) rfl))) am_nil)))) (by decide +kernel)) ggX4_endOf_X4_hasTurns
theorem dX4_endOf_0 : decode cX4_endOf 0 = .ok (.aload_n 0, 1) := by decide +kernel
theorem dX4_endOf_1 : decode cX4_endOf 1 = .ok (.iload_n 1, 1) := by decide +kernel
theorem dX4_endOf_2 : decode cX4_endOf 2 = .ok (.iconst 1, 1) := by decide +kernel
theorem dX4_endOf_3 : decode cX4_endOf 3 = .ok (.invokevirtual 37, 3) := by decide +kernel
theorem dX4_endOf_6 : decode cX4_endOf 6 = .ok (.ifCond .eq 14, 3) := by decide +kernel
theorem dX4_endOf_9 : decode cX4_endOf 9 = .ok (.aload_n 0, 1) := by decide +kernel
theorem dX4_endOf_10 : decode cX4_endOf 10 = .ok (.getfield 9, 3) := by decide +kernel
theorem dX4_endOf_13 : decode cX4_endOf 13 = .ok (.iload_n 1, 1) := by decide +kernel
theorem dX4_endOf_14 : decode cX4_endOf 14 = .ok (.iconst 1, 1) := by decide +kernel
theorem dX4_endOf_15 : decode cX4_endOf 15 = .ok (.iadd, 1) := by decide +kernel
theorem dX4_endOf_16 : decode cX4_endOf 16 = .ok (.iaload, 1) := by decide +kernel
theorem dX4_endOf_17 : decode cX4_endOf 17 = .ok (.goto 5, 3) := by decide +kernel
theorem dX4_endOf_20 : decode cX4_endOf 20 = .ok (.ldc 15, 2) := by decide +kernel
theorem dX4_endOf_22 : decode cX4_endOf 22 = .ok (.ireturn, 1) := by decide +kernel
set_option maxRecDepth 20000 in
theorem ggX4_timeIn_X4_hasTurns : GoodIn wsX4_timeIn wsX4_hasTurns := goodIn_sub (am_cons (List.mem_cons_of_mem _ (List.mem_append_left _ (List.mem_of_getElem? (i := 6) rfl))) (am_app (am_cons (List.mem_cons_of_mem _ (List.mem_append_left _ (List.mem_of_getElem? (i := 7) rfl))) am_nil) (fun _ h => List.mem_cons_of_mem _ (List.mem_append_right _ (h))))) (by decide +kernel)
set_option maxRecDepth 20000 in
theorem gX4_timeIn_X4_hasTurns : GoodIn wsX4_timeIn (wsV RX4 37 RX4 yX4_hasTurns wsX4_hasTurns) := goodIn_app (goodIn_sub (am_cons (List.mem_cons_of_mem _ (List.mem_append_left _ (List.mem_of_getElem? (i := 2) rfl))) (am_cons (List.mem_cons_of_mem _ (List.mem_append_left _ (List.mem_of_getElem? (i := 3) rfl))) (am_cons (List.mem_cons_of_mem _ (List.mem_append_left _ (List.mem_of_getElem? (i := 4) rfl))) (am_cons (List.mem_cons_of_mem _ (List.mem_append_left _ (List.mem_of_getElem? (i := 5) rfl))) am_nil)))) (by decide +kernel)) ggX4_timeIn_X4_hasTurns
theorem dX4_timeIn_0 : decode cX4_timeIn 0 = .ok (.aload_n 0, 1) := by decide +kernel
theorem dX4_timeIn_1 : decode cX4_timeIn 1 = .ok (.iload_n 1, 1) := by decide +kernel
theorem dX4_timeIn_2 : decode cX4_timeIn 2 = .ok (.iconst 1, 1) := by decide +kernel
theorem dX4_timeIn_3 : decode cX4_timeIn 3 = .ok (.invokevirtual 37, 3) := by decide +kernel
theorem dX4_timeIn_6 : decode cX4_timeIn 6 = .ok (.ifCond .ne 6, 3) := by decide +kernel
theorem dX4_timeIn_9 : decode cX4_timeIn 9 = .ok (.ldc 15, 2) := by decide +kernel
theorem dX4_timeIn_11 : decode cX4_timeIn 11 = .ok (.ireturn, 1) := by decide +kernel
theorem dX4_timeIn_12 : decode cX4_timeIn 12 = .ok (.aload_n 0, 1) := by decide +kernel
theorem dX4_timeIn_13 : decode cX4_timeIn 13 = .ok (.getfield 9, 3) := by decide +kernel
theorem dX4_timeIn_16 : decode cX4_timeIn 16 = .ok (.iload_n 1, 1) := by decide +kernel
theorem dX4_timeIn_17 : decode cX4_timeIn 17 = .ok (.iconst 1, 1) := by decide +kernel
theorem dX4_timeIn_18 : decode cX4_timeIn 18 = .ok (.iadd, 1) := by decide +kernel
theorem dX4_timeIn_19 : decode cX4_timeIn 19 = .ok (.iaload, 1) := by decide +kernel
theorem dX4_timeIn_20 : decode cX4_timeIn 20 = .ok (.aload_n 0, 1) := by decide +kernel
theorem dX4_timeIn_21 : decode cX4_timeIn 21 = .ok (.getfield 9, 3) := by decide +kernel
theorem dX4_timeIn_24 : decode cX4_timeIn 24 = .ok (.iload_n 1, 1) := by decide +kernel
theorem dX4_timeIn_25 : decode cX4_timeIn 25 = .ok (.iaload, 1) := by decide +kernel
theorem dX4_timeIn_26 : decode cX4_timeIn 26 = .ok (.isub, 1) := by decide +kernel
theorem dX4_timeIn_27 : decode cX4_timeIn 27 = .ok (.istore_n 3, 1) := by decide +kernel
theorem dX4_timeIn_28 : decode cX4_timeIn 28 = .ok (.aload_n 0, 1) := by decide +kernel
theorem dX4_timeIn_29 : decode cX4_timeIn 29 = .ok (.getfield 9, 3) := by decide +kernel
theorem dX4_timeIn_32 : decode cX4_timeIn 32 = .ok (.iload_n 1, 1) := by decide +kernel
theorem dX4_timeIn_33 : decode cX4_timeIn 33 = .ok (.iaload, 1) := by decide +kernel
theorem dX4_timeIn_34 : decode cX4_timeIn 34 = .ok (.iload_n 3, 1) := by decide +kernel
theorem dX4_timeIn_35 : decode cX4_timeIn 35 = .ok (.iload_n 2, 1) := by decide +kernel
theorem dX4_timeIn_36 : decode cX4_timeIn 36 = .ok (.imul, 1) := by decide +kernel
theorem dX4_timeIn_37 : decode cX4_timeIn 37 = .ok (.bipush 32, 2) := by decide +kernel
theorem dX4_timeIn_39 : decode cX4_timeIn 39 = .ok (.idiv, 1) := by decide +kernel
theorem dX4_timeIn_40 : decode cX4_timeIn 40 = .ok (.iadd, 1) := by decide +kernel
theorem dX4_timeIn_41 : decode cX4_timeIn 41 = .ok (.ireturn, 1) := by decide +kernel
set_option maxRecDepth 20000 in
theorem ggX4_mendUpTo_X4_keep : GoodIn wsX4_mendUpTo wsX4_keep := goodIn_sub (am_cons (List.mem_cons_of_mem _ (List.mem_append_left _ (List.mem_of_getElem? (i := 10) rfl))) (am_app (am_cons (List.mem_cons_of_mem _ (List.mem_append_left _ (List.mem_of_getElem? (i := 0) rfl))) (am_cons (List.mem_cons_of_mem _ (List.mem_append_left _ (List.mem_of_getElem? (i := 1) rfl))) am_nil)) (fun _ h => List.mem_cons_of_mem _ (List.mem_append_right _ (h))))) (by decide +kernel)
set_option maxRecDepth 20000 in
theorem gX4_mendUpTo_X4_keep : GoodIn wsX4_mendUpTo (wsV RX4 31 RX4 yX4_keep wsX4_keep) := goodIn_app (goodIn_sub (am_cons (List.mem_cons_of_mem _ (List.mem_append_left _ (List.mem_of_getElem? (i := 6) rfl))) (am_cons (List.mem_cons_of_mem _ (List.mem_append_left _ (List.mem_of_getElem? (i := 7) rfl))) (am_cons (List.mem_cons_of_mem _ (List.mem_append_left _ (List.mem_of_getElem? (i := 8) rfl))) (am_cons (List.mem_cons_of_mem _ (List.mem_append_left _ (List.mem_of_getElem? (i := 9) rfl))) am_nil)))) (by decide +kernel)) ggX4_mendUpTo_X4_keep
theorem dX4_mendUpTo_0 : decode cX4_mendUpTo 0 = .ok (.aload_n 0, 1) := by decide +kernel
theorem dX4_mendUpTo_1 : decode cX4_mendUpTo 1 = .ok (.getfield 34, 3) := by decide +kernel
theorem dX4_mendUpTo_4 : decode cX4_mendUpTo 4 = .ok (.iconst 2, 1) := by decide +kernel
theorem dX4_mendUpTo_5 : decode cX4_mendUpTo 5 = .ok (.if_icmp .lt 12, 3) := by decide +kernel
theorem dX4_mendUpTo_8 : decode cX4_mendUpTo 8 = .ok (.aload_n 0, 1) := by decide +kernel
theorem dX4_mendUpTo_9 : decode cX4_mendUpTo 9 = .ok (.getfield 34, 3) := by decide +kernel
theorem dX4_mendUpTo_12 : decode cX4_mendUpTo 12 = .ok (.bipush 120, 2) := by decide +kernel
theorem dX4_mendUpTo_14 : decode cX4_mendUpTo 14 = .ok (.if_icmp .lt 4, 3) := by decide +kernel
theorem dX4_mendUpTo_17 : decode cX4_mendUpTo 17 = .ok (.return_, 1) := by decide +kernel
theorem dX4_mendUpTo_18 : decode cX4_mendUpTo 18 = .ok (.aload_n 0, 1) := by decide +kernel
theorem dX4_mendUpTo_19 : decode cX4_mendUpTo 19 = .ok (.getfield 9, 3) := by decide +kernel
theorem dX4_mendUpTo_22 : decode cX4_mendUpTo 22 = .ok (.aload_n 0, 1) := by decide +kernel
theorem dX4_mendUpTo_23 : decode cX4_mendUpTo 23 = .ok (.getfield 34, 3) := by decide +kernel
theorem dX4_mendUpTo_26 : decode cX4_mendUpTo 26 = .ok (.iconst 1, 1) := by decide +kernel
theorem dX4_mendUpTo_27 : decode cX4_mendUpTo 27 = .ok (.isub, 1) := by decide +kernel
theorem dX4_mendUpTo_28 : decode cX4_mendUpTo 28 = .ok (.iaload, 1) := by decide +kernel
theorem dX4_mendUpTo_29 : decode cX4_mendUpTo 29 = .ok (.istore_n 2, 1) := by decide +kernel
theorem dX4_mendUpTo_30 : decode cX4_mendUpTo 30 = .ok (.iload_n 2, 1) := by decide +kernel
theorem dX4_mendUpTo_31 : decode cX4_mendUpTo 31 = .ok (.aload_n 0, 1) := by decide +kernel
theorem dX4_mendUpTo_32 : decode cX4_mendUpTo 32 = .ok (.getfield 9, 3) := by decide +kernel
theorem dX4_mendUpTo_35 : decode cX4_mendUpTo 35 = .ok (.aload_n 0, 1) := by decide +kernel
theorem dX4_mendUpTo_36 : decode cX4_mendUpTo 36 = .ok (.getfield 34, 3) := by decide +kernel
theorem dX4_mendUpTo_39 : decode cX4_mendUpTo 39 = .ok (.iconst 2, 1) := by decide +kernel
theorem dX4_mendUpTo_40 : decode cX4_mendUpTo 40 = .ok (.isub, 1) := by decide +kernel
theorem dX4_mendUpTo_41 : decode cX4_mendUpTo 41 = .ok (.iaload, 1) := by decide +kernel
theorem dX4_mendUpTo_42 : decode cX4_mendUpTo 42 = .ok (.isub, 1) := by decide +kernel
theorem dX4_mendUpTo_43 : decode cX4_mendUpTo 43 = .ok (.istore_n 3, 1) := by decide +kernel
theorem dX4_mendUpTo_44 : decode cX4_mendUpTo 44 = .ok (.iload_n 1, 1) := by decide +kernel
theorem dX4_mendUpTo_45 : decode cX4_mendUpTo 45 = .ok (.iload_n 2, 1) := by decide +kernel
theorem dX4_mendUpTo_46 : decode cX4_mendUpTo 46 = .ok (.isub, 1) := by decide +kernel
theorem dX4_mendUpTo_47 : decode cX4_mendUpTo 47 = .ok (.istore 4, 2) := by decide +kernel
theorem dX4_mendUpTo_49 : decode cX4_mendUpTo 49 = .ok (.iload_n 3, 1) := by decide +kernel
theorem dX4_mendUpTo_50 : decode cX4_mendUpTo 50 = .ok (.iconst 1, 1) := by decide +kernel
theorem dX4_mendUpTo_51 : decode cX4_mendUpTo 51 = .ok (.if_icmp .lt 13, 3) := by decide +kernel
theorem dX4_mendUpTo_54 : decode cX4_mendUpTo 54 = .ok (.iconst 2, 1) := by decide +kernel
theorem dX4_mendUpTo_55 : decode cX4_mendUpTo 55 = .ok (.iload 4, 2) := by decide +kernel
theorem dX4_mendUpTo_57 : decode cX4_mendUpTo 57 = .ok (.imul, 1) := by decide +kernel
theorem dX4_mendUpTo_58 : decode cX4_mendUpTo 58 = .ok (.iconst 3, 1) := by decide +kernel
theorem dX4_mendUpTo_59 : decode cX4_mendUpTo 59 = .ok (.iload_n 3, 1) := by decide +kernel
theorem dX4_mendUpTo_60 : decode cX4_mendUpTo 60 = .ok (.imul, 1) := by decide +kernel
theorem dX4_mendUpTo_61 : decode cX4_mendUpTo 61 = .ok (.if_icmp .gt 4, 3) := by decide +kernel
theorem dX4_mendUpTo_64 : decode cX4_mendUpTo 64 = .ok (.return_, 1) := by decide +kernel
theorem dX4_mendUpTo_65 : decode cX4_mendUpTo 65 = .ok (.iconst 2, 1) := by decide +kernel
theorem dX4_mendUpTo_66 : decode cX4_mendUpTo 66 = .ok (.iconst 2, 1) := by decide +kernel
theorem dX4_mendUpTo_67 : decode cX4_mendUpTo 67 = .ok (.iload 4, 2) := by decide +kernel
theorem dX4_mendUpTo_69 : decode cX4_mendUpTo 69 = .ok (.imul, 1) := by decide +kernel
theorem dX4_mendUpTo_70 : decode cX4_mendUpTo 70 = .ok (.iload_n 3, 1) := by decide +kernel
theorem dX4_mendUpTo_71 : decode cX4_mendUpTo 71 = .ok (.iadd, 1) := by decide +kernel
theorem dX4_mendUpTo_72 : decode cX4_mendUpTo 72 = .ok (.iconst 2, 1) := by decide +kernel
theorem dX4_mendUpTo_73 : decode cX4_mendUpTo 73 = .ok (.iload_n 3, 1) := by decide +kernel
theorem dX4_mendUpTo_74 : decode cX4_mendUpTo 74 = .ok (.imul, 1) := by decide +kernel
theorem dX4_mendUpTo_75 : decode cX4_mendUpTo 75 = .ok (.idiv, 1) := by decide +kernel
theorem dX4_mendUpTo_76 : decode cX4_mendUpTo 76 = .ok (.invokestatic 41, 3) := by decide +kernel
theorem dX4_mendUpTo_79 : decode cX4_mendUpTo 79 = .ok (.istore 5, 2) := by decide +kernel
theorem dX4_mendUpTo_81 : decode cX4_mendUpTo 81 = .ok (.iconst 1, 1) := by decide +kernel
theorem dX4_mendUpTo_82 : decode cX4_mendUpTo 82 = .ok (.istore 6, 2) := by decide +kernel
theorem dX4_mendUpTo_84 : decode cX4_mendUpTo 84 = .ok (.iload 6, 2) := by decide +kernel
theorem dX4_mendUpTo_86 : decode cX4_mendUpTo 86 = .ok (.iload 5, 2) := by decide +kernel
theorem dX4_mendUpTo_88 : decode cX4_mendUpTo 88 = .ok (.if_icmp .ge 36, 3) := by decide +kernel
theorem dX4_mendUpTo_91 : decode cX4_mendUpTo 91 = .ok (.aload_n 0, 1) := by decide +kernel
theorem dX4_mendUpTo_92 : decode cX4_mendUpTo 92 = .ok (.getfield 34, 3) := by decide +kernel
theorem dX4_mendUpTo_95 : decode cX4_mendUpTo 95 = .ok (.bipush 120, 2) := by decide +kernel
theorem dX4_mendUpTo_97 : decode cX4_mendUpTo 97 = .ok (.if_icmp .ge 27, 3) := by decide +kernel
theorem dX4_mendUpTo_100 : decode cX4_mendUpTo 100 = .ok (.aload_n 0, 1) := by decide +kernel
theorem dX4_mendUpTo_101 : decode cX4_mendUpTo 101 = .ok (.iload_n 2, 1) := by decide +kernel
theorem dX4_mendUpTo_102 : decode cX4_mendUpTo 102 = .ok (.iload 4, 2) := by decide +kernel
theorem dX4_mendUpTo_104 : decode cX4_mendUpTo 104 = .ok (.i2l, 1) := by decide +kernel
theorem dX4_mendUpTo_105 : decode cX4_mendUpTo 105 = .ok (.iload 6, 2) := by decide +kernel
theorem dX4_mendUpTo_107 : decode cX4_mendUpTo 107 = .ok (.i2l, 1) := by decide +kernel
theorem dX4_mendUpTo_108 : decode cX4_mendUpTo 108 = .ok (.lmul, 1) := by decide +kernel
theorem dX4_mendUpTo_109 : decode cX4_mendUpTo 109 = .ok (.iload 5, 2) := by decide +kernel
theorem dX4_mendUpTo_111 : decode cX4_mendUpTo 111 = .ok (.i2l, 1) := by decide +kernel
theorem dX4_mendUpTo_112 : decode cX4_mendUpTo 112 = .ok (.ldiv, 1) := by decide +kernel
theorem dX4_mendUpTo_113 : decode cX4_mendUpTo 113 = .ok (.l2i, 1) := by decide +kernel
theorem dX4_mendUpTo_114 : decode cX4_mendUpTo 114 = .ok (.iadd, 1) := by decide +kernel
theorem dX4_mendUpTo_115 : decode cX4_mendUpTo 115 = .ok (.invokevirtual 31, 3) := by decide +kernel
theorem dX4_mendUpTo_118 : decode cX4_mendUpTo 118 = .ok (.iinc 6 1, 3) := by decide +kernel
theorem dX4_mendUpTo_121 : decode cX4_mendUpTo 121 = .ok (.goto (-37), 3) := by decide +kernel
theorem dX4_mendUpTo_124 : decode cX4_mendUpTo 124 = .ok (.return_, 1) := by decide +kernel
theorem dX4_keep_0 : decode cX4_keep 0 = .ok (.aload_n 0, 1) := by decide +kernel
theorem dX4_keep_1 : decode cX4_keep 1 = .ok (.getfield 34, 3) := by decide +kernel
theorem dX4_keep_4 : decode cX4_keep 4 = .ok (.bipush 120, 2) := by decide +kernel
theorem dX4_keep_6 : decode cX4_keep 6 = .ok (.if_icmp .ge 23, 3) := by decide +kernel
theorem dX4_keep_9 : decode cX4_keep 9 = .ok (.aload_n 0, 1) := by decide +kernel
theorem dX4_keep_10 : decode cX4_keep 10 = .ok (.getfield 9, 3) := by decide +kernel
theorem dX4_keep_13 : decode cX4_keep 13 = .ok (.aload_n 0, 1) := by decide +kernel
theorem dX4_keep_14 : decode cX4_keep 14 = .ok (.getfield 34, 3) := by decide +kernel
theorem dX4_keep_17 : decode cX4_keep 17 = .ok (.iload_n 1, 1) := by decide +kernel
theorem dX4_keep_18 : decode cX4_keep 18 = .ok (.iastore, 1) := by decide +kernel
theorem dX4_keep_19 : decode cX4_keep 19 = .ok (.aload_n 0, 1) := by decide +kernel
theorem dX4_keep_20 : decode cX4_keep 20 = .ok (.dup, 1) := by decide +kernel
theorem dX4_keep_21 : decode cX4_keep 21 = .ok (.getfield 34, 3) := by decide +kernel
theorem dX4_keep_24 : decode cX4_keep 24 = .ok (.iconst 1, 1) := by decide +kernel
theorem dX4_keep_25 : decode cX4_keep 25 = .ok (.iadd, 1) := by decide +kernel
theorem dX4_keep_26 : decode cX4_keep 26 = .ok (.putfield 34, 3) := by decide +kernel
theorem dX4_keep_29 : decode cX4_keep 29 = .ok (.return_, 1) := by decide +kernel
theorem dX5_init_0 : decode cX5_init 0 = .ok (.aload_n 0, 1) := by decide +kernel
theorem dX5_init_1 : decode cX5_init 1 = .ok (.invokespecial 3, 3) := by decide +kernel
theorem dX5_init_4 : decode cX5_init 4 = .ok (.aload_n 0, 1) := by decide +kernel
theorem dX5_init_5 : decode cX5_init 5 = .ok (.bipush 32, 2) := by decide +kernel
theorem dX5_init_7 : decode cX5_init 7 = .ok (.newarray .int, 2) := by decide +kernel
theorem dX5_init_9 : decode cX5_init 9 = .ok (.putfield 9, 3) := by decide +kernel
theorem dX5_init_12 : decode cX5_init 12 = .ok (.return_, 1) := by decide +kernel
set_option maxRecDepth 20000 in
theorem ggX5_take_X4_timeIn : GoodIn wsX5_take wsX4_timeIn := goodIn_sub (am_cons (List.mem_cons_of_mem _ (List.mem_append_left _ (List.mem_append_left _ (List.mem_append_left _ (List.mem_append_left _ (List.mem_of_getElem? (i := 6) rfl)))))) (am_app (am_cons (List.mem_cons_of_mem _ (List.mem_append_left _ (List.mem_append_left _ (List.mem_append_left _ (List.mem_append_left _ (List.mem_of_getElem? (i := 7) rfl)))))) (am_cons (List.mem_cons_of_mem _ (List.mem_append_left _ (List.mem_append_left _ (List.mem_append_left _ (List.mem_append_left _ (List.mem_of_getElem? (i := 8) rfl)))))) (am_cons (List.mem_cons_of_mem _ (List.mem_append_left _ (List.mem_append_left _ (List.mem_append_left _ (List.mem_append_left _ (List.mem_of_getElem? (i := 9) rfl)))))) (am_cons (List.mem_cons_of_mem _ (List.mem_append_left _ (List.mem_append_left _ (List.mem_append_left _ (List.mem_append_left _ (List.mem_of_getElem? (i := 10) rfl)))))) (am_cons (List.mem_cons_of_mem _ (List.mem_append_left _ (List.mem_append_left _ (List.mem_append_left _ (List.mem_append_left _ (List.mem_of_getElem? (i := 11) rfl)))))) (am_cons (List.mem_cons_of_mem _ (List.mem_append_left _ (List.mem_append_left _ (List.mem_append_left _ (List.mem_append_left _ (List.mem_of_getElem? (i := 5) rfl)))))) (am_cons (List.mem_cons_of_mem _ (List.mem_append_left _ (List.mem_append_left _ (List.mem_append_left _ (List.mem_append_left _ (List.mem_of_getElem? (i := 12) rfl)))))) (am_cons (List.mem_cons_of_mem _ (List.mem_append_left _ (List.mem_append_left _ (List.mem_append_left _ (List.mem_append_left _ (List.mem_of_getElem? (i := 13) rfl)))))) am_nil)))))))) (fun _ h => List.mem_cons_of_mem _ (List.mem_append_left _ (List.mem_append_right _ (h)))))) (by decide +kernel)
set_option maxRecDepth 20000 in
theorem gX5_take_X4_timeIn : GoodIn wsX5_take (wsV RX5 15 RX4 yX4_timeIn wsX4_timeIn) := goodIn_app (goodIn_sub (am_cons (List.mem_cons_of_mem _ (List.mem_append_left _ (List.mem_append_left _ (List.mem_append_left _ (List.mem_append_left _ (List.mem_of_getElem? (i := 2) rfl)))))) (am_cons (List.mem_cons_of_mem _ (List.mem_append_left _ (List.mem_append_left _ (List.mem_append_left _ (List.mem_append_left _ (List.mem_of_getElem? (i := 3) rfl)))))) (am_cons (List.mem_cons_of_mem _ (List.mem_append_left _ (List.mem_append_left _ (List.mem_append_left _ (List.mem_append_left _ (List.mem_of_getElem? (i := 4) rfl)))))) (am_cons (List.mem_cons_of_mem _ (List.mem_append_left _ (List.mem_append_left _ (List.mem_append_left _ (List.mem_append_left _ (List.mem_of_getElem? (i := 5) rfl)))))) am_nil)))) (by decide +kernel)) ggX5_take_X4_timeIn
set_option maxRecDepth 20000 in
theorem ggX5_take_X7_valueAt : GoodIn wsX5_take wsX7_valueAt := goodIn_sub (am_cons (List.mem_cons_of_mem _ (List.mem_append_left _ (List.mem_append_left _ (List.mem_append_left _ (List.mem_append_left _ (List.mem_of_getElem? (i := 18) rfl)))))) (am_app (am_cons (List.mem_cons_of_mem _ (List.mem_append_left _ (List.mem_append_left _ (List.mem_append_left _ (List.mem_append_left _ (List.mem_of_getElem? (i := 19) rfl)))))) (am_cons (List.mem_cons_of_mem _ (List.mem_append_left _ (List.mem_append_left _ (List.mem_append_left _ (List.mem_append_left _ (List.mem_of_getElem? (i := 20) rfl)))))) (am_cons (List.mem_cons_of_mem _ (List.mem_append_left _ (List.mem_append_left _ (List.mem_append_left _ (List.mem_append_left _ (List.mem_of_getElem? (i := 21) rfl)))))) (am_cons (List.mem_cons_of_mem _ (List.mem_append_left _ (List.mem_append_left _ (List.mem_append_left _ (List.mem_append_left _ (List.mem_of_getElem? (i := 22) rfl)))))) (am_cons (List.mem_cons_of_mem _ (List.mem_append_left _ (List.mem_append_left _ (List.mem_append_left _ (List.mem_append_left _ (List.mem_of_getElem? (i := 23) rfl)))))) (am_cons (List.mem_cons_of_mem _ (List.mem_append_left _ (List.mem_append_left _ (List.mem_append_left _ (List.mem_append_left _ (List.mem_of_getElem? (i := 17) rfl)))))) (am_cons (List.mem_cons_of_mem _ (List.mem_append_left _ (List.mem_append_left _ (List.mem_append_left _ (List.mem_append_right _ (List.mem_of_getElem? (i := 0) rfl)))))) (am_cons (List.mem_cons_of_mem _ (List.mem_append_left _ (List.mem_append_left _ (List.mem_append_left _ (List.mem_append_right _ (List.mem_of_getElem? (i := 1) rfl)))))) (am_cons (List.mem_cons_of_mem _ (List.mem_append_left _ (List.mem_append_left _ (List.mem_append_left _ (List.mem_append_right _ (List.mem_of_getElem? (i := 2) rfl)))))) (am_cons (List.mem_cons_of_mem _ (List.mem_append_left _ (List.mem_append_left _ (List.mem_append_left _ (List.mem_append_right _ (List.mem_of_getElem? (i := 3) rfl)))))) (am_cons (List.mem_cons_of_mem _ (List.mem_append_left _ (List.mem_append_left _ (List.mem_append_left _ (List.mem_append_right _ (List.mem_of_getElem? (i := 4) rfl)))))) (am_cons (List.mem_cons_of_mem _ (List.mem_append_left _ (List.mem_append_left _ (List.mem_append_left _ (List.mem_append_right _ (List.mem_of_getElem? (i := 5) rfl)))))) (am_cons (List.mem_cons_of_mem _ (List.mem_append_left _ (List.mem_append_left _ (List.mem_append_left _ (List.mem_append_right _ (List.mem_of_getElem? (i := 6) rfl)))))) (am_cons (List.mem_cons_of_mem _ (List.mem_append_left _ (List.mem_append_left _ (List.mem_append_left _ (List.mem_append_right _ (List.mem_of_getElem? (i := 7) rfl)))))) (am_cons (List.mem_cons_of_mem _ (List.mem_append_left _ (List.mem_append_left _ (List.mem_append_left _ (List.mem_append_right _ (List.mem_of_getElem? (i := 8) rfl)))))) am_nil))))))))))))))) (fun _ h => List.mem_cons_of_mem _ (List.mem_append_right _ (h))))) (by decide +kernel)
set_option maxRecDepth 20000 in
theorem gX5_take_X7_valueAt : GoodIn wsX5_take (wsV RX5 21 RX7 yX7_valueAt wsX7_valueAt) := goodIn_app (goodIn_sub (am_cons (List.mem_cons_of_mem _ (List.mem_append_left _ (List.mem_append_left _ (List.mem_append_left _ (List.mem_append_left _ (List.mem_of_getElem? (i := 14) rfl)))))) (am_cons (List.mem_cons_of_mem _ (List.mem_append_left _ (List.mem_append_left _ (List.mem_append_left _ (List.mem_append_left _ (List.mem_of_getElem? (i := 15) rfl)))))) (am_cons (List.mem_cons_of_mem _ (List.mem_append_left _ (List.mem_append_left _ (List.mem_append_left _ (List.mem_append_left _ (List.mem_of_getElem? (i := 16) rfl)))))) (am_cons (List.mem_cons_of_mem _ (List.mem_append_left _ (List.mem_append_left _ (List.mem_append_left _ (List.mem_append_left _ (List.mem_of_getElem? (i := 17) rfl)))))) am_nil)))) (by decide +kernel)) ggX5_take_X7_valueAt
set_option maxRecDepth 20000 in
theorem ggX5_take_J9_floorDiv_7cf53 : GoodIn wsX5_take wsJ9_floorDiv_7cf53 := goodIn_sub (am_cons (List.mem_cons_of_mem _ (List.mem_append_left _ (List.mem_append_left _ (List.mem_append_left _ (List.mem_append_right _ (List.mem_of_getElem? (i := 8) rfl)))))) (am_nil)) (by decide +kernel)
set_option maxRecDepth 20000 in
theorem gX5_take_J9_floorDiv_7cf53 : GoodIn wsX5_take (va_wsS RX5 27 yJ9_floorDiv_7cf53 wsJ9_floorDiv_7cf53) := goodIn_app (goodIn_sub (am_cons (List.mem_cons_of_mem _ (List.mem_append_left _ (List.mem_append_left _ (List.mem_append_left _ (List.mem_append_right _ (List.mem_of_getElem? (i := 9) rfl)))))) (am_cons (List.mem_cons_of_mem _ (List.mem_append_left _ (List.mem_append_left _ (List.mem_append_left _ (List.mem_append_right _ (List.mem_of_getElem? (i := 6) rfl)))))) (am_cons (List.mem_cons_of_mem _ (List.mem_append_left _ (List.mem_append_left _ (List.mem_append_left _ (List.mem_append_right _ (List.mem_of_getElem? (i := 7) rfl)))))) am_nil))) (by decide +kernel)) ggX5_take_J9_floorDiv_7cf53
theorem dX5_take_0 : decode cX5_take 0 = .ok (.iload 4, 2) := by decide +kernel
theorem dX5_take_2 : decode cX5_take 2 = .ok (.iconst 1, 1) := by decide +kernel
theorem dX5_take_3 : decode cX5_take 3 = .ok (.if_icmp .ge 4, 3) := by decide +kernel
theorem dX5_take_6 : decode cX5_take 6 = .ok (.return_, 1) := by decide +kernel
theorem dX5_take_7 : decode cX5_take 7 = .ok (.iconst 0, 1) := by decide +kernel
theorem dX5_take_8 : decode cX5_take 8 = .ok (.istore 5, 2) := by decide +kernel
theorem dX5_take_10 : decode cX5_take 10 = .ok (.iload 5, 2) := by decide +kernel
theorem dX5_take_12 : decode cX5_take 12 = .ok (.bipush 32, 2) := by decide +kernel
theorem dX5_take_14 : decode cX5_take 14 = .ok (.if_icmp .ge 61, 3) := by decide +kernel
theorem dX5_take_17 : decode cX5_take 17 = .ok (.iconst 0, 1) := by decide +kernel
theorem dX5_take_18 : decode cX5_take 18 = .ok (.istore 6, 2) := by decide +kernel
theorem dX5_take_20 : decode cX5_take 20 = .ok (.iconst 0, 1) := by decide +kernel
theorem dX5_take_21 : decode cX5_take 21 = .ok (.istore 7, 2) := by decide +kernel
theorem dX5_take_23 : decode cX5_take 23 = .ok (.iload 7, 2) := by decide +kernel
theorem dX5_take_25 : decode cX5_take 25 = .ok (.iload 4, 2) := by decide +kernel
theorem dX5_take_27 : decode cX5_take 27 = .ok (.if_icmp .ge 28, 3) := by decide +kernel
theorem dX5_take_30 : decode cX5_take 30 = .ok (.iload 6, 2) := by decide +kernel
theorem dX5_take_32 : decode cX5_take 32 = .ok (.aload_n 1, 1) := by decide +kernel
theorem dX5_take_33 : decode cX5_take 33 = .ok (.aload_n 2, 1) := by decide +kernel
theorem dX5_take_34 : decode cX5_take 34 = .ok (.iload_n 3, 1) := by decide +kernel
theorem dX5_take_35 : decode cX5_take 35 = .ok (.iload 7, 2) := by decide +kernel
theorem dX5_take_37 : decode cX5_take 37 = .ok (.iadd, 1) := by decide +kernel
theorem dX5_take_38 : decode cX5_take 38 = .ok (.iload 5, 2) := by decide +kernel
theorem dX5_take_40 : decode cX5_take 40 = .ok (.invokevirtual 15, 3) := by decide +kernel
theorem dX5_take_43 : decode cX5_take 43 = .ok (.invokevirtual 21, 3) := by decide +kernel
theorem dX5_take_46 : decode cX5_take 46 = .ok (.iadd, 1) := by decide +kernel
theorem dX5_take_47 : decode cX5_take 47 = .ok (.istore 6, 2) := by decide +kernel
theorem dX5_take_49 : decode cX5_take 49 = .ok (.iinc 7 1, 3) := by decide +kernel
theorem dX5_take_52 : decode cX5_take 52 = .ok (.goto (-29), 3) := by decide +kernel
theorem dX5_take_55 : decode cX5_take 55 = .ok (.aload_n 0, 1) := by decide +kernel
theorem dX5_take_56 : decode cX5_take 56 = .ok (.getfield 9, 3) := by decide +kernel
theorem dX5_take_59 : decode cX5_take 59 = .ok (.iload 5, 2) := by decide +kernel
theorem dX5_take_61 : decode cX5_take 61 = .ok (.iload 6, 2) := by decide +kernel
theorem dX5_take_63 : decode cX5_take 63 = .ok (.iload 4, 2) := by decide +kernel
theorem dX5_take_65 : decode cX5_take 65 = .ok (.invokestatic 27, 3) := by decide +kernel
theorem dX5_take_68 : decode cX5_take 68 = .ok (.iastore, 1) := by decide +kernel
theorem dX5_take_69 : decode cX5_take 69 = .ok (.iinc 5 1, 3) := by decide +kernel
theorem dX5_take_72 : decode cX5_take 72 = .ok (.goto (-62), 3) := by decide +kernel
theorem dX5_take_75 : decode cX5_take 75 = .ok (.aload_n 0, 1) := by decide +kernel
theorem dX5_take_76 : decode cX5_take 76 = .ok (.iconst 1, 1) := by decide +kernel
theorem dX5_take_77 : decode cX5_take 77 = .ok (.putfield 32, 3) := by decide +kernel
theorem dX5_take_80 : decode cX5_take 80 = .ok (.return_, 1) := by decide +kernel
set_option maxRecDepth 20000 in
theorem ggX5_strengthAt_X8_cosine : GoodIn wsX5_strengthAt wsX8_cosine := goodIn_sub (am_cons (List.mem_cons_of_mem _ (List.mem_append_left _ (List.mem_of_getElem? (i := 4) rfl))) (am_cons (List.mem_cons_of_mem _ (List.mem_append_left _ (List.mem_of_getElem? (i := 5) rfl))) (am_cons (List.mem_cons_of_mem _ (List.mem_append_left _ (List.mem_of_getElem? (i := 6) rfl))) (am_cons (List.mem_cons_of_mem _ (List.mem_append_left _ (List.mem_of_getElem? (i := 7) rfl))) (am_cons (List.mem_cons_of_mem _ (List.mem_append_left _ (List.mem_of_getElem? (i := 8) rfl))) (am_cons (List.mem_cons_of_mem _ (List.mem_append_left _ (List.mem_of_getElem? (i := 9) rfl))) am_nil)))))) (by decide +kernel)
set_option maxRecDepth 20000 in
theorem gX5_strengthAt_X8_cosine_n36 : GoodIn wsX5_strengthAt (wsX8_cosine) := ggX5_strengthAt_X8_cosine
theorem dX5_strengthAt_0 : decode cX5_strengthAt 0 = .ok (.lconst 0, 1) := by decide +kernel
theorem dX5_strengthAt_1 : decode cX5_strengthAt 1 = .ok (.lstore_n 2, 1) := by decide +kernel
theorem dX5_strengthAt_2 : decode cX5_strengthAt 2 = .ok (.lconst 0, 1) := by decide +kernel
theorem dX5_strengthAt_3 : decode cX5_strengthAt 3 = .ok (.lstore 4, 2) := by decide +kernel
theorem dX5_strengthAt_5 : decode cX5_strengthAt 5 = .ok (.iconst 0, 1) := by decide +kernel
theorem dX5_strengthAt_6 : decode cX5_strengthAt 6 = .ok (.istore 6, 2) := by decide +kernel
theorem dX5_strengthAt_8 : decode cX5_strengthAt 8 = .ok (.iload 6, 2) := by decide +kernel
theorem dX5_strengthAt_10 : decode cX5_strengthAt 10 = .ok (.bipush 32, 2) := by decide +kernel
theorem dX5_strengthAt_12 : decode cX5_strengthAt 12 = .ok (.if_icmp .ge 54, 3) := by decide +kernel
theorem dX5_strengthAt_15 : decode cX5_strengthAt 15 = .ok (.lload_n 2, 1) := by decide +kernel
theorem dX5_strengthAt_16 : decode cX5_strengthAt 16 = .ok (.aload_n 0, 1) := by decide +kernel
theorem dX5_strengthAt_17 : decode cX5_strengthAt 17 = .ok (.getfield 9, 3) := by decide +kernel
theorem dX5_strengthAt_20 : decode cX5_strengthAt 20 = .ok (.iload 6, 2) := by decide +kernel
theorem dX5_strengthAt_22 : decode cX5_strengthAt 22 = .ok (.iaload, 1) := by decide +kernel
theorem dX5_strengthAt_23 : decode cX5_strengthAt 23 = .ok (.i2l, 1) := by decide +kernel
theorem dX5_strengthAt_24 : decode cX5_strengthAt 24 = .ok (.iload_n 1, 1) := by decide +kernel
theorem dX5_strengthAt_25 : decode cX5_strengthAt 25 = .ok (.iload 6, 2) := by decide +kernel
theorem dX5_strengthAt_27 : decode cX5_strengthAt 27 = .ok (.imul, 1) := by decide +kernel
theorem dX5_strengthAt_28 : decode cX5_strengthAt 28 = .ok (.invokestatic 36, 3) := by decide +kernel
theorem dX5_strengthAt_31 : decode cX5_strengthAt 31 = .ok (.i2l, 1) := by decide +kernel
theorem dX5_strengthAt_32 : decode cX5_strengthAt 32 = .ok (.lmul, 1) := by decide +kernel
theorem dX5_strengthAt_33 : decode cX5_strengthAt 33 = .ok (.ladd, 1) := by decide +kernel
theorem dX5_strengthAt_34 : decode cX5_strengthAt 34 = .ok (.lstore_n 2, 1) := by decide +kernel
theorem dX5_strengthAt_35 : decode cX5_strengthAt 35 = .ok (.lload 4, 2) := by decide +kernel
theorem dX5_strengthAt_37 : decode cX5_strengthAt 37 = .ok (.aload_n 0, 1) := by decide +kernel
theorem dX5_strengthAt_38 : decode cX5_strengthAt 38 = .ok (.getfield 9, 3) := by decide +kernel
theorem dX5_strengthAt_41 : decode cX5_strengthAt 41 = .ok (.iload 6, 2) := by decide +kernel
theorem dX5_strengthAt_43 : decode cX5_strengthAt 43 = .ok (.iaload, 1) := by decide +kernel
theorem dX5_strengthAt_44 : decode cX5_strengthAt 44 = .ok (.i2l, 1) := by decide +kernel
theorem dX5_strengthAt_45 : decode cX5_strengthAt 45 = .ok (.iload_n 1, 1) := by decide +kernel
theorem dX5_strengthAt_46 : decode cX5_strengthAt 46 = .ok (.iload 6, 2) := by decide +kernel
theorem dX5_strengthAt_48 : decode cX5_strengthAt 48 = .ok (.imul, 1) := by decide +kernel
theorem dX5_strengthAt_49 : decode cX5_strengthAt 49 = .ok (.bipush 8, 2) := by decide +kernel
theorem dX5_strengthAt_51 : decode cX5_strengthAt 51 = .ok (.isub, 1) := by decide +kernel
theorem dX5_strengthAt_52 : decode cX5_strengthAt 52 = .ok (.invokestatic 36, 3) := by decide +kernel
theorem dX5_strengthAt_55 : decode cX5_strengthAt 55 = .ok (.i2l, 1) := by decide +kernel
theorem dX5_strengthAt_56 : decode cX5_strengthAt 56 = .ok (.lmul, 1) := by decide +kernel
theorem dX5_strengthAt_57 : decode cX5_strengthAt 57 = .ok (.ladd, 1) := by decide +kernel
theorem dX5_strengthAt_58 : decode cX5_strengthAt 58 = .ok (.lstore 4, 2) := by decide +kernel
theorem dX5_strengthAt_60 : decode cX5_strengthAt 60 = .ok (.iinc 6 1, 3) := by decide +kernel
theorem dX5_strengthAt_63 : decode cX5_strengthAt 63 = .ok (.goto (-55), 3) := by decide +kernel
theorem dX5_strengthAt_66 : decode cX5_strengthAt 66 = .ok (.lload_n 2, 1) := by decide +kernel
theorem dX5_strengthAt_67 : decode cX5_strengthAt 67 = .ok (.lload_n 2, 1) := by decide +kernel
theorem dX5_strengthAt_68 : decode cX5_strengthAt 68 = .ok (.lmul, 1) := by decide +kernel
theorem dX5_strengthAt_69 : decode cX5_strengthAt 69 = .ok (.lload 4, 2) := by decide +kernel
theorem dX5_strengthAt_71 : decode cX5_strengthAt 71 = .ok (.lload 4, 2) := by decide +kernel
theorem dX5_strengthAt_73 : decode cX5_strengthAt 73 = .ok (.lmul, 1) := by decide +kernel
theorem dX5_strengthAt_74 : decode cX5_strengthAt 74 = .ok (.ladd, 1) := by decide +kernel
theorem dX5_strengthAt_75 : decode cX5_strengthAt 75 = .ok (.ldc2_w 39, 3) := by decide +kernel
theorem dX5_strengthAt_78 : decode cX5_strengthAt 78 = .ok (.ldiv, 1) := by decide +kernel
theorem dX5_strengthAt_79 : decode cX5_strengthAt 79 = .ok (.lreturn, 1) := by decide +kernel
theorem dX6_init_0 : decode cX6_init 0 = .ok (.aload_n 0, 1) := by decide +kernel
theorem dX6_init_1 : decode cX6_init 1 = .ok (.invokespecial 3, 3) := by decide +kernel
theorem dX6_init_4 : decode cX6_init 4 = .ok (.aload_n 0, 1) := by decide +kernel
theorem dX6_init_5 : decode cX6_init 5 = .ok (.iconst 3, 1) := by decide +kernel
theorem dX6_init_6 : decode cX6_init 6 = .ok (.newarray .long, 2) := by decide +kernel
theorem dX6_init_8 : decode cX6_init 8 = .ok (.putfield 9, 3) := by decide +kernel
theorem dX6_init_11 : decode cX6_init 11 = .ok (.aload_n 0, 1) := by decide +kernel
theorem dX6_init_12 : decode cX6_init 12 = .ok (.iconst 3, 1) := by decide +kernel
theorem dX6_init_13 : decode cX6_init 13 = .ok (.newarray .long, 2) := by decide +kernel
theorem dX6_init_15 : decode cX6_init 15 = .ok (.putfield 15, 3) := by decide +kernel
theorem dX6_init_18 : decode cX6_init 18 = .ok (.aload_n 0, 1) := by decide +kernel
theorem dX6_init_19 : decode cX6_init 19 = .ok (.iload_n 1, 1) := by decide +kernel
theorem dX6_init_20 : decode cX6_init 20 = .ok (.putfield 18, 3) := by decide +kernel
theorem dX6_init_23 : decode cX6_init 23 = .ok (.aload_n 0, 1) := by decide +kernel
theorem dX6_init_24 : decode cX6_init 24 = .ok (.iload_n 2, 1) := by decide +kernel
theorem dX6_init_25 : decode cX6_init 25 = .ok (.putfield 22, 3) := by decide +kernel
theorem dX6_init_28 : decode cX6_init 28 = .ok (.return_, 1) := by decide +kernel
set_option maxRecDepth 20000 in
theorem ggX6_addTone_X8_commonDivisor : GoodIn wsX6_addTone wsX8_commonDivisor := goodIn_sub (am_cons (List.mem_cons_of_mem _ (List.mem_append_left _ (List.mem_of_getElem? (i := 5) rfl))) (am_cons (List.mem_cons_of_mem _ (List.mem_append_left _ (List.mem_of_getElem? (i := 6) rfl))) (am_cons (List.mem_cons_of_mem _ (List.mem_append_left _ (List.mem_of_getElem? (i := 7) rfl))) (am_cons (List.mem_cons_of_mem _ (List.mem_append_left _ (List.mem_of_getElem? (i := 8) rfl))) (am_cons (List.mem_cons_of_mem _ (List.mem_append_left _ (List.mem_of_getElem? (i := 9) rfl))) am_nil))))) (by decide +kernel)
set_option maxRecDepth 20000 in
theorem gX6_addTone_X8_commonDivisor_n28 : GoodIn wsX6_addTone (wsX8_commonDivisor) := ggX6_addTone_X8_commonDivisor
theorem dX6_addTone_0 : decode cX6_addTone 0 = .ok (.aload_n 0, 1) := by decide +kernel
theorem dX6_addTone_1 : decode cX6_addTone 1 = .ok (.getfield 25, 3) := by decide +kernel
theorem dX6_addTone_4 : decode cX6_addTone 4 = .ok (.iconst 3, 1) := by decide +kernel
theorem dX6_addTone_5 : decode cX6_addTone 5 = .ok (.if_icmp .lt 4, 3) := by decide +kernel
theorem dX6_addTone_8 : decode cX6_addTone 8 = .ok (.return_, 1) := by decide +kernel
theorem dX6_addTone_9 : decode cX6_addTone 9 = .ok (.lload_n 1, 1) := by decide +kernel
theorem dX6_addTone_10 : decode cX6_addTone 10 = .ok (.lload_n 3, 1) := by decide +kernel
theorem dX6_addTone_11 : decode cX6_addTone 11 = .ok (.invokestatic 28, 3) := by decide +kernel
theorem dX6_addTone_14 : decode cX6_addTone 14 = .ok (.lstore 5, 2) := by decide +kernel
theorem dX6_addTone_16 : decode cX6_addTone 16 = .ok (.aload_n 0, 1) := by decide +kernel
theorem dX6_addTone_17 : decode cX6_addTone 17 = .ok (.getfield 9, 3) := by decide +kernel
theorem dX6_addTone_20 : decode cX6_addTone 20 = .ok (.aload_n 0, 1) := by decide +kernel
theorem dX6_addTone_21 : decode cX6_addTone 21 = .ok (.getfield 25, 3) := by decide +kernel
theorem dX6_addTone_24 : decode cX6_addTone 24 = .ok (.lload_n 1, 1) := by decide +kernel
theorem dX6_addTone_25 : decode cX6_addTone 25 = .ok (.lload 5, 2) := by decide +kernel
theorem dX6_addTone_27 : decode cX6_addTone 27 = .ok (.ldiv, 1) := by decide +kernel
theorem dX6_addTone_28 : decode cX6_addTone 28 = .ok (.lastore, 1) := by decide +kernel
theorem dX6_addTone_29 : decode cX6_addTone 29 = .ok (.aload_n 0, 1) := by decide +kernel
theorem dX6_addTone_30 : decode cX6_addTone 30 = .ok (.getfield 15, 3) := by decide +kernel
theorem dX6_addTone_33 : decode cX6_addTone 33 = .ok (.aload_n 0, 1) := by decide +kernel
theorem dX6_addTone_34 : decode cX6_addTone 34 = .ok (.getfield 25, 3) := by decide +kernel
theorem dX6_addTone_37 : decode cX6_addTone 37 = .ok (.lload_n 3, 1) := by decide +kernel
theorem dX6_addTone_38 : decode cX6_addTone 38 = .ok (.lload 5, 2) := by decide +kernel
theorem dX6_addTone_40 : decode cX6_addTone 40 = .ok (.ldiv, 1) := by decide +kernel
theorem dX6_addTone_41 : decode cX6_addTone 41 = .ok (.lastore, 1) := by decide +kernel
theorem dX6_addTone_42 : decode cX6_addTone 42 = .ok (.aload_n 0, 1) := by decide +kernel
theorem dX6_addTone_43 : decode cX6_addTone 43 = .ok (.dup, 1) := by decide +kernel
theorem dX6_addTone_44 : decode cX6_addTone 44 = .ok (.getfield 25, 3) := by decide +kernel
theorem dX6_addTone_47 : decode cX6_addTone 47 = .ok (.iconst 1, 1) := by decide +kernel
theorem dX6_addTone_48 : decode cX6_addTone 48 = .ok (.iadd, 1) := by decide +kernel
theorem dX6_addTone_49 : decode cX6_addTone 49 = .ok (.putfield 25, 3) := by decide +kernel
theorem dX6_addTone_52 : decode cX6_addTone 52 = .ok (.return_, 1) := by decide +kernel
theorem dX7_init_0 : decode cX7_init 0 = .ok (.aload_n 0, 1) := by decide +kernel
theorem dX7_init_1 : decode cX7_init 1 = .ok (.invokespecial 3, 3) := by decide +kernel
theorem dX7_init_4 : decode cX7_init 4 = .ok (.aload_n 0, 1) := by decide +kernel
theorem dX7_init_5 : decode cX7_init 5 = .ok (.sipush 200, 3) := by decide +kernel
theorem dX7_init_8 : decode cX7_init 8 = .ok (.newarray .int, 2) := by decide +kernel
theorem dX7_init_10 : decode cX7_init 10 = .ok (.putfield 9, 3) := by decide +kernel
theorem dX7_init_13 : decode cX7_init 13 = .ok (.aload_n 0, 1) := by decide +kernel
theorem dX7_init_14 : decode cX7_init 14 = .ok (.iconst 1, 1) := by decide +kernel
theorem dX7_init_15 : decode cX7_init 15 = .ok (.putfield 15, 3) := by decide +kernel
theorem dX7_init_18 : decode cX7_init 18 = .ok (.return_, 1) := by decide +kernel
theorem dX7_begin_0 : decode cX7_begin 0 = .ok (.aload_n 0, 1) := by decide +kernel
theorem dX7_begin_1 : decode cX7_begin 1 = .ok (.iconst 1, 1) := by decide +kernel
theorem dX7_begin_2 : decode cX7_begin 2 = .ok (.putfield 19, 3) := by decide +kernel
theorem dX7_begin_5 : decode cX7_begin 5 = .ok (.aload_n 0, 1) := by decide +kernel
theorem dX7_begin_6 : decode cX7_begin 6 = .ok (.iload_n 1, 1) := by decide +kernel
theorem dX7_begin_7 : decode cX7_begin 7 = .ok (.putfield 23, 3) := by decide +kernel
theorem dX7_begin_10 : decode cX7_begin 10 = .ok (.aload_n 0, 1) := by decide +kernel
theorem dX7_begin_11 : decode cX7_begin 11 = .ok (.iload_n 2, 1) := by decide +kernel
theorem dX7_begin_12 : decode cX7_begin 12 = .ok (.putfield 26, 3) := by decide +kernel
theorem dX7_begin_15 : decode cX7_begin 15 = .ok (.aload_n 0, 1) := by decide +kernel
theorem dX7_begin_16 : decode cX7_begin 16 = .ok (.iload_n 3, 1) := by decide +kernel
theorem dX7_begin_17 : decode cX7_begin 17 = .ok (.putfield 15, 3) := by decide +kernel
theorem dX7_begin_20 : decode cX7_begin 20 = .ok (.iconst 0, 1) := by decide +kernel
theorem dX7_begin_21 : decode cX7_begin 21 = .ok (.istore 4, 2) := by decide +kernel
theorem dX7_begin_23 : decode cX7_begin 23 = .ok (.iload 4, 2) := by decide +kernel
theorem dX7_begin_25 : decode cX7_begin 25 = .ok (.aload_n 0, 1) := by decide +kernel
theorem dX7_begin_26 : decode cX7_begin 26 = .ok (.getfield 9, 3) := by decide +kernel
theorem dX7_begin_29 : decode cX7_begin 29 = .ok (.arraylength, 1) := by decide +kernel
theorem dX7_begin_30 : decode cX7_begin 30 = .ok (.if_icmp .ge 17, 3) := by decide +kernel
theorem dX7_begin_33 : decode cX7_begin 33 = .ok (.aload_n 0, 1) := by decide +kernel
theorem dX7_begin_34 : decode cX7_begin 34 = .ok (.getfield 9, 3) := by decide +kernel
theorem dX7_begin_37 : decode cX7_begin 37 = .ok (.iload 4, 2) := by decide +kernel
theorem dX7_begin_39 : decode cX7_begin 39 = .ok (.iconst 0, 1) := by decide +kernel
theorem dX7_begin_40 : decode cX7_begin 40 = .ok (.iastore, 1) := by decide +kernel
theorem dX7_begin_41 : decode cX7_begin 41 = .ok (.iinc 4 1, 3) := by decide +kernel
theorem dX7_begin_44 : decode cX7_begin 44 = .ok (.goto (-21), 3) := by decide +kernel
theorem dX7_begin_47 : decode cX7_begin 47 = .ok (.return_, 1) := by decide +kernel
set_option maxRecDepth 20000 in
theorem ggX7_put_X8_within : GoodIn wsX7_put wsX8_within := goodIn_sub (am_cons (List.mem_cons_of_mem _ (List.mem_append_left _ (List.mem_of_getElem? (i := 5) rfl))) (am_nil)) (by decide +kernel)
set_option maxRecDepth 20000 in
theorem gX7_put_X8_within_n29 : GoodIn wsX7_put (wsX8_within) := ggX7_put_X8_within
theorem dX7_put_0 : decode cX7_put 0 = .ok (.iload_n 1, 1) := by decide +kernel
theorem dX7_put_1 : decode cX7_put 1 = .ok (.iconst 0, 1) := by decide +kernel
theorem dX7_put_2 : decode cX7_put 2 = .ok (.aload_n 0, 1) := by decide +kernel
theorem dX7_put_3 : decode cX7_put 3 = .ok (.getfield 26, 3) := by decide +kernel
theorem dX7_put_6 : decode cX7_put 6 = .ok (.iconst 1, 1) := by decide +kernel
theorem dX7_put_7 : decode cX7_put 7 = .ok (.isub, 1) := by decide +kernel
theorem dX7_put_8 : decode cX7_put 8 = .ok (.invokestatic 29, 3) := by decide +kernel
theorem dX7_put_11 : decode cX7_put 11 = .ok (.ifCond .ne 4, 3) := by decide +kernel
theorem dX7_put_14 : decode cX7_put 14 = .ok (.return_, 1) := by decide +kernel
theorem dX7_put_15 : decode cX7_put 15 = .ok (.aload_n 0, 1) := by decide +kernel
theorem dX7_put_16 : decode cX7_put 16 = .ok (.getfield 23, 3) := by decide +kernel
theorem dX7_put_19 : decode cX7_put 19 = .ok (.ifCond .ne 14, 3) := by decide +kernel
theorem dX7_put_22 : decode cX7_put 22 = .ok (.aload_n 0, 1) := by decide +kernel
theorem dX7_put_23 : decode cX7_put 23 = .ok (.getfield 9, 3) := by decide +kernel
theorem dX7_put_26 : decode cX7_put 26 = .ok (.iload_n 1, 1) := by decide +kernel
theorem dX7_put_27 : decode cX7_put 27 = .ok (.iload_n 2, 1) := by decide +kernel
theorem dX7_put_28 : decode cX7_put 28 = .ok (.i2b, 1) := by decide +kernel
theorem dX7_put_29 : decode cX7_put 29 = .ok (.iastore, 1) := by decide +kernel
theorem dX7_put_30 : decode cX7_put 30 = .ok (.goto 29, 3) := by decide +kernel
theorem dX7_put_33 : decode cX7_put 33 = .ok (.aload_n 0, 1) := by decide +kernel
theorem dX7_put_34 : decode cX7_put 34 = .ok (.getfield 23, 3) := by decide +kernel
theorem dX7_put_37 : decode cX7_put 37 = .ok (.iconst 1, 1) := by decide +kernel
theorem dX7_put_38 : decode cX7_put 38 = .ok (.if_icmp .ne 14, 3) := by decide +kernel
theorem dX7_put_41 : decode cX7_put 41 = .ok (.aload_n 0, 1) := by decide +kernel
theorem dX7_put_42 : decode cX7_put 42 = .ok (.getfield 9, 3) := by decide +kernel
theorem dX7_put_45 : decode cX7_put 45 = .ok (.iload_n 1, 1) := by decide +kernel
theorem dX7_put_46 : decode cX7_put 46 = .ok (.iload_n 2, 1) := by decide +kernel
theorem dX7_put_47 : decode cX7_put 47 = .ok (.i2s, 1) := by decide +kernel
theorem dX7_put_48 : decode cX7_put 48 = .ok (.iastore, 1) := by decide +kernel
theorem dX7_put_49 : decode cX7_put 49 = .ok (.goto 10, 3) := by decide +kernel
theorem dX7_put_52 : decode cX7_put 52 = .ok (.aload_n 0, 1) := by decide +kernel
theorem dX7_put_53 : decode cX7_put 53 = .ok (.getfield 9, 3) := by decide +kernel
theorem dX7_put_56 : decode cX7_put 56 = .ok (.iload_n 1, 1) := by decide +kernel
theorem dX7_put_57 : decode cX7_put 57 = .ok (.iload_n 2, 1) := by decide +kernel
theorem dX7_put_58 : decode cX7_put 58 = .ok (.iastore, 1) := by decide +kernel
theorem dX7_put_59 : decode cX7_put 59 = .ok (.return_, 1) := by decide +kernel
theorem dX7_lastHeard_0 : decode cX7_lastHeard 0 = .ok (.aload_n 0, 1) := by decide +kernel
theorem dX7_lastHeard_1 : decode cX7_lastHeard 1 = .ok (.getfield 26, 3) := by decide +kernel
theorem dX7_lastHeard_4 : decode cX7_lastHeard 4 = .ok (.iconst 1, 1) := by decide +kernel
theorem dX7_lastHeard_5 : decode cX7_lastHeard 5 = .ok (.isub, 1) := by decide +kernel
theorem dX7_lastHeard_6 : decode cX7_lastHeard 6 = .ok (.aload_n 0, 1) := by decide +kernel
theorem dX7_lastHeard_7 : decode cX7_lastHeard 7 = .ok (.getfield 15, 3) := by decide +kernel
theorem dX7_lastHeard_10 : decode cX7_lastHeard 10 = .ok (.imul, 1) := by decide +kernel
theorem dX7_lastHeard_11 : decode cX7_lastHeard 11 = .ok (.ireturn, 1) := by decide +kernel
set_option maxRecDepth 20000 in
theorem ggX7_valueAt_X7_lastHeard : GoodIn wsX7_valueAt wsX7_lastHeard := goodIn_sub (am_cons (List.mem_cons_of_mem _ (List.mem_append_left _ (List.mem_of_getElem? (i := 6) rfl))) (am_app (am_cons (List.mem_cons_of_mem _ (List.mem_append_left _ (List.mem_of_getElem? (i := 7) rfl))) (am_cons (List.mem_cons_of_mem _ (List.mem_append_left _ (List.mem_of_getElem? (i := 0) rfl))) am_nil)) (fun _ h => List.mem_cons_of_mem _ (List.mem_append_right _ (h))))) (by decide +kernel)
set_option maxRecDepth 20000 in
theorem gX7_valueAt_X7_lastHeard : GoodIn wsX7_valueAt (wsV RX7 33 RX7 yX7_lastHeard wsX7_lastHeard) := goodIn_app (goodIn_sub (am_cons (List.mem_cons_of_mem _ (List.mem_append_left _ (List.mem_of_getElem? (i := 2) rfl))) (am_cons (List.mem_cons_of_mem _ (List.mem_append_left _ (List.mem_of_getElem? (i := 3) rfl))) (am_cons (List.mem_cons_of_mem _ (List.mem_append_left _ (List.mem_of_getElem? (i := 4) rfl))) (am_cons (List.mem_cons_of_mem _ (List.mem_append_left _ (List.mem_of_getElem? (i := 5) rfl))) am_nil)))) (by decide +kernel)) ggX7_valueAt_X7_lastHeard
set_option maxRecDepth 20000 in
theorem ggX7_valueAt_X8_within : GoodIn wsX7_valueAt wsX8_within := goodIn_sub (am_cons (List.mem_cons_of_mem _ (List.mem_append_left _ (List.mem_of_getElem? (i := 10) rfl))) (am_nil)) (by decide +kernel)
set_option maxRecDepth 20000 in
theorem gX7_valueAt_X8_within_n29 : GoodIn wsX7_valueAt (wsX8_within) := ggX7_valueAt_X8_within
set_option maxRecDepth 20000 in
theorem ggX7_valueAt_J9_floorDiv_7cf53 : GoodIn wsX7_valueAt wsJ9_floorDiv_7cf53 := goodIn_sub (am_cons (List.mem_cons_of_mem _ (List.mem_append_left _ (List.mem_of_getElem? (i := 14) rfl))) (am_nil)) (by decide +kernel)
set_option maxRecDepth 20000 in
theorem gX7_valueAt_J9_floorDiv_7cf53 : GoodIn wsX7_valueAt (va_wsS RX7 37 yJ9_floorDiv_7cf53 wsJ9_floorDiv_7cf53) := goodIn_app (goodIn_sub (am_cons (List.mem_cons_of_mem _ (List.mem_append_left _ (List.mem_of_getElem? (i := 11) rfl))) (am_cons (List.mem_cons_of_mem _ (List.mem_append_left _ (List.mem_of_getElem? (i := 12) rfl))) (am_cons (List.mem_cons_of_mem _ (List.mem_append_left _ (List.mem_of_getElem? (i := 13) rfl))) am_nil))) (by decide +kernel)) ggX7_valueAt_J9_floorDiv_7cf53
theorem dX7_valueAt_0 : decode cX7_valueAt 0 = .ok (.aload_n 0, 1) := by decide +kernel
theorem dX7_valueAt_1 : decode cX7_valueAt 1 = .ok (.getfield 15, 3) := by decide +kernel
theorem dX7_valueAt_4 : decode cX7_valueAt 4 = .ok (.iconst 1, 1) := by decide +kernel
theorem dX7_valueAt_5 : decode cX7_valueAt 5 = .ok (.if_icmp .lt 15, 3) := by decide +kernel
theorem dX7_valueAt_8 : decode cX7_valueAt 8 = .ok (.iload_n 1, 1) := by decide +kernel
theorem dX7_valueAt_9 : decode cX7_valueAt 9 = .ok (.iconst 0, 1) := by decide +kernel
theorem dX7_valueAt_10 : decode cX7_valueAt 10 = .ok (.aload_n 0, 1) := by decide +kernel
theorem dX7_valueAt_11 : decode cX7_valueAt 11 = .ok (.invokevirtual 33, 3) := by decide +kernel
theorem dX7_valueAt_14 : decode cX7_valueAt 14 = .ok (.invokestatic 29, 3) := by decide +kernel
theorem dX7_valueAt_17 : decode cX7_valueAt 17 = .ok (.ifCond .ne 5, 3) := by decide +kernel
theorem dX7_valueAt_20 : decode cX7_valueAt 20 = .ok (.iconst 0, 1) := by decide +kernel
theorem dX7_valueAt_21 : decode cX7_valueAt 21 = .ok (.ireturn, 1) := by decide +kernel
theorem dX7_valueAt_22 : decode cX7_valueAt 22 = .ok (.iload_n 1, 1) := by decide +kernel
theorem dX7_valueAt_23 : decode cX7_valueAt 23 = .ok (.aload_n 0, 1) := by decide +kernel
theorem dX7_valueAt_24 : decode cX7_valueAt 24 = .ok (.getfield 15, 3) := by decide +kernel
theorem dX7_valueAt_27 : decode cX7_valueAt 27 = .ok (.idiv, 1) := by decide +kernel
theorem dX7_valueAt_28 : decode cX7_valueAt 28 = .ok (.istore_n 2, 1) := by decide +kernel
theorem dX7_valueAt_29 : decode cX7_valueAt 29 = .ok (.iload_n 1, 1) := by decide +kernel
theorem dX7_valueAt_30 : decode cX7_valueAt 30 = .ok (.aload_n 0, 1) := by decide +kernel
theorem dX7_valueAt_31 : decode cX7_valueAt 31 = .ok (.getfield 15, 3) := by decide +kernel
theorem dX7_valueAt_34 : decode cX7_valueAt 34 = .ok (.irem, 1) := by decide +kernel
theorem dX7_valueAt_35 : decode cX7_valueAt 35 = .ok (.istore_n 3, 1) := by decide +kernel
theorem dX7_valueAt_36 : decode cX7_valueAt 36 = .ok (.iload_n 3, 1) := by decide +kernel
theorem dX7_valueAt_37 : decode cX7_valueAt 37 = .ok (.ifCond .ne 10, 3) := by decide +kernel
theorem dX7_valueAt_40 : decode cX7_valueAt 40 = .ok (.aload_n 0, 1) := by decide +kernel
theorem dX7_valueAt_41 : decode cX7_valueAt 41 = .ok (.getfield 9, 3) := by decide +kernel
theorem dX7_valueAt_44 : decode cX7_valueAt 44 = .ok (.iload_n 2, 1) := by decide +kernel
theorem dX7_valueAt_45 : decode cX7_valueAt 45 = .ok (.iaload, 1) := by decide +kernel
theorem dX7_valueAt_46 : decode cX7_valueAt 46 = .ok (.ireturn, 1) := by decide +kernel
theorem dX7_valueAt_47 : decode cX7_valueAt 47 = .ok (.aload_n 0, 1) := by decide +kernel
theorem dX7_valueAt_48 : decode cX7_valueAt 48 = .ok (.getfield 9, 3) := by decide +kernel
theorem dX7_valueAt_51 : decode cX7_valueAt 51 = .ok (.iload_n 2, 1) := by decide +kernel
theorem dX7_valueAt_52 : decode cX7_valueAt 52 = .ok (.iaload, 1) := by decide +kernel
theorem dX7_valueAt_53 : decode cX7_valueAt 53 = .ok (.aload_n 0, 1) := by decide +kernel
theorem dX7_valueAt_54 : decode cX7_valueAt 54 = .ok (.getfield 9, 3) := by decide +kernel
theorem dX7_valueAt_57 : decode cX7_valueAt 57 = .ok (.iload_n 2, 1) := by decide +kernel
theorem dX7_valueAt_58 : decode cX7_valueAt 58 = .ok (.iconst 1, 1) := by decide +kernel
theorem dX7_valueAt_59 : decode cX7_valueAt 59 = .ok (.iadd, 1) := by decide +kernel
theorem dX7_valueAt_60 : decode cX7_valueAt 60 = .ok (.iaload, 1) := by decide +kernel
theorem dX7_valueAt_61 : decode cX7_valueAt 61 = .ok (.aload_n 0, 1) := by decide +kernel
theorem dX7_valueAt_62 : decode cX7_valueAt 62 = .ok (.getfield 9, 3) := by decide +kernel
theorem dX7_valueAt_65 : decode cX7_valueAt 65 = .ok (.iload_n 2, 1) := by decide +kernel
theorem dX7_valueAt_66 : decode cX7_valueAt 66 = .ok (.iaload, 1) := by decide +kernel
theorem dX7_valueAt_67 : decode cX7_valueAt 67 = .ok (.isub, 1) := by decide +kernel
theorem dX7_valueAt_68 : decode cX7_valueAt 68 = .ok (.iload_n 3, 1) := by decide +kernel
theorem dX7_valueAt_69 : decode cX7_valueAt 69 = .ok (.imul, 1) := by decide +kernel
theorem dX7_valueAt_70 : decode cX7_valueAt 70 = .ok (.aload_n 0, 1) := by decide +kernel
theorem dX7_valueAt_71 : decode cX7_valueAt 71 = .ok (.getfield 15, 3) := by decide +kernel
theorem dX7_valueAt_74 : decode cX7_valueAt 74 = .ok (.invokestatic 37, 3) := by decide +kernel
theorem dX7_valueAt_77 : decode cX7_valueAt 77 = .ok (.iadd, 1) := by decide +kernel
theorem dX7_valueAt_78 : decode cX7_valueAt 78 = .ok (.ireturn, 1) := by decide +kernel
set_option maxRecDepth 20000 in
theorem ggX8_init_X3_init : GoodIn wsX8_init wsX3_init := goodIn_sub (am_cons (List.mem_cons_of_mem _ (List.mem_append_left _ (List.mem_append_left _ (List.mem_append_left _ (List.mem_append_left _ (List.mem_append_left _ (List.mem_append_left _ (List.mem_append_left _ (List.mem_append_left _ (List.mem_append_left _ (List.mem_append_right _ (List.mem_append_left _ (List.mem_of_getElem? (i := 12) rfl))))))))))))) (am_app (am_app (am_app (am_cons (List.mem_cons_of_mem _ (List.mem_append_left _ (List.mem_append_left _ (List.mem_append_left _ (List.mem_append_left _ (List.mem_append_left _ (List.mem_append_left _ (List.mem_append_left _ (List.mem_append_left _ (List.mem_append_left _ (List.mem_append_right _ (List.mem_append_left _ (List.mem_of_getElem? (i := 13) rfl))))))))))))) (am_cons (List.mem_cons_of_mem _ (List.mem_append_left _ (List.mem_append_left _ (List.mem_append_left _ (List.mem_append_left _ (List.mem_append_left _ (List.mem_append_left _ (List.mem_append_left _ (List.mem_append_left _ (List.mem_append_left _ (List.mem_append_left _ (List.mem_of_getElem? (i := 1) rfl)))))))))))) (am_cons (List.mem_cons_of_mem _ (List.mem_append_left _ (List.mem_append_left _ (List.mem_append_left _ (List.mem_append_left _ (List.mem_append_left _ (List.mem_append_left _ (List.mem_append_left _ (List.mem_append_left _ (List.mem_append_left _ (List.mem_append_left _ (List.mem_of_getElem? (i := 2) rfl)))))))))))) (am_cons (List.mem_cons_of_mem _ (List.mem_append_left _ (List.mem_append_left _ (List.mem_append_left _ (List.mem_append_left _ (List.mem_append_left _ (List.mem_append_left _ (List.mem_append_left _ (List.mem_append_left _ (List.mem_append_left _ (List.mem_append_right _ (List.mem_append_left _ (List.mem_of_getElem? (i := 14) rfl))))))))))))) (am_cons (List.mem_cons_of_mem _ (List.mem_append_left _ (List.mem_append_left _ (List.mem_append_left _ (List.mem_append_left _ (List.mem_append_left _ (List.mem_append_left _ (List.mem_append_left _ (List.mem_append_left _ (List.mem_append_left _ (List.mem_append_right _ (List.mem_append_left _ (List.mem_of_getElem? (i := 15) rfl))))))))))))) (am_cons (List.mem_cons_of_mem _ (List.mem_append_left _ (List.mem_append_left _ (List.mem_append_left _ (List.mem_append_left _ (List.mem_append_left _ (List.mem_append_left _ (List.mem_append_left _ (List.mem_append_left _ (List.mem_append_left _ (List.mem_append_right _ (List.mem_append_left _ (List.mem_of_getElem? (i := 16) rfl))))))))))))) (am_cons (List.mem_cons_of_mem _ (List.mem_append_left _ (List.mem_append_left _ (List.mem_append_left _ (List.mem_append_left _ (List.mem_append_left _ (List.mem_append_left _ (List.mem_append_left _ (List.mem_append_left _ (List.mem_append_left _ (List.mem_append_right _ (List.mem_append_left _ (List.mem_of_getElem? (i := 17) rfl))))))))))))) (am_cons (List.mem_cons_of_mem _ (List.mem_append_left _ (List.mem_append_left _ (List.mem_append_left _ (List.mem_append_left _ (List.mem_append_left _ (List.mem_append_left _ (List.mem_append_left _ (List.mem_append_left _ (List.mem_append_left _ (List.mem_append_right _ (List.mem_append_left _ (List.mem_of_getElem? (i := 18) rfl))))))))))))) (am_cons (List.mem_cons_of_mem _ (List.mem_append_left _ (List.mem_append_left _ (List.mem_append_left _ (List.mem_append_left _ (List.mem_append_left _ (List.mem_append_left _ (List.mem_append_left _ (List.mem_append_left _ (List.mem_append_left _ (List.mem_append_right _ (List.mem_append_left _ (List.mem_of_getElem? (i := 19) rfl))))))))))))) (am_cons (List.mem_cons_of_mem _ (List.mem_append_left _ (List.mem_append_left _ (List.mem_append_left _ (List.mem_append_left _ (List.mem_append_left _ (List.mem_append_left _ (List.mem_append_left _ (List.mem_append_left _ (List.mem_append_left _ (List.mem_append_right _ (List.mem_append_left _ (List.mem_of_getElem? (i := 20) rfl))))))))))))) (am_cons (List.mem_cons_of_mem _ (List.mem_append_left _ (List.mem_append_left _ (List.mem_append_left _ (List.mem_append_left _ (List.mem_append_left _ (List.mem_append_left _ (List.mem_append_left _ (List.mem_append_left _ (List.mem_append_left _ (List.mem_append_right _ (List.mem_append_left _ (List.mem_of_getElem? (i := 21) rfl))))))))))))) (am_cons (List.mem_cons_of_mem _ (List.mem_append_left _ (List.mem_append_left _ (List.mem_append_left _ (List.mem_append_left _ (List.mem_append_left _ (List.mem_append_left _ (List.mem_append_left _ (List.mem_append_left _ (List.mem_append_left _ (List.mem_append_right _ (List.mem_append_left _ (List.mem_of_getElem? (i := 22) rfl))))))))))))) (am_cons (List.mem_cons_of_mem _ (List.mem_append_left _ (List.mem_append_left _ (List.mem_append_left _ (List.mem_append_left _ (List.mem_append_left _ (List.mem_append_left _ (List.mem_append_left _ (List.mem_append_left _ (List.mem_append_left _ (List.mem_append_right _ (List.mem_append_left _ (List.mem_of_getElem? (i := 23) rfl))))))))))))) (am_cons (List.mem_cons_of_mem _ (List.mem_append_left _ (List.mem_append_left _ (List.mem_append_left _ (List.mem_append_left _ (List.mem_append_left _ (List.mem_append_left _ (List.mem_append_left _ (List.mem_append_left _ (List.mem_append_left _ (List.mem_append_right _ (List.mem_append_right _ (List.mem_append_left _ (List.mem_of_getElem? (i := 0) rfl)))))))))))))) (am_cons (List.mem_cons_of_mem _ (List.mem_append_left _ (List.mem_append_left _ (List.mem_append_left _ (List.mem_append_left _ (List.mem_append_left _ (List.mem_append_left _ (List.mem_append_left _ (List.mem_append_left _ (List.mem_append_left _ (List.mem_append_left _ (List.mem_of_getElem? (i := 5) rfl)))))))))))) (am_cons (List.mem_cons_of_mem _ (List.mem_append_left _ (List.mem_append_left _ (List.mem_append_left _ (List.mem_append_left _ (List.mem_append_left _ (List.mem_append_left _ (List.mem_append_left _ (List.mem_append_left _ (List.mem_append_left _ (List.mem_append_right _ (List.mem_append_right _ (List.mem_append_left _ (List.mem_of_getElem? (i := 1) rfl)))))))))))))) (am_cons (List.mem_cons_of_mem _ (List.mem_append_left _ (List.mem_append_left _ (List.mem_append_left _ (List.mem_append_left _ (List.mem_append_left _ (List.mem_append_left _ (List.mem_append_left _ (List.mem_append_left _ (List.mem_append_left _ (List.mem_append_right _ (List.mem_append_right _ (List.mem_append_left _ (List.mem_of_getElem? (i := 2) rfl)))))))))))))) (am_cons (List.mem_cons_of_mem _ (List.mem_append_left _ (List.mem_append_left _ (List.mem_append_left _ (List.mem_append_left _ (List.mem_append_left _ (List.mem_append_left _ (List.mem_append_left _ (List.mem_append_left _ (List.mem_append_left _ (List.mem_append_right _ (List.mem_append_right _ (List.mem_append_left _ (List.mem_of_getElem? (i := 3) rfl)))))))))))))) (am_cons (List.mem_cons_of_mem _ (List.mem_append_left _ (List.mem_append_left _ (List.mem_append_left _ (List.mem_append_left _ (List.mem_append_left _ (List.mem_append_left _ (List.mem_append_left _ (List.mem_append_left _ (List.mem_append_left _ (List.mem_append_right _ (List.mem_append_right _ (List.mem_append_left _ (List.mem_of_getElem? (i := 4) rfl)))))))))))))) (am_cons (List.mem_cons_of_mem _ (List.mem_append_left _ (List.mem_append_left _ (List.mem_append_left _ (List.mem_append_left _ (List.mem_append_left _ (List.mem_append_left _ (List.mem_append_left _ (List.mem_append_left _ (List.mem_append_left _ (List.mem_append_right _ (List.mem_append_right _ (List.mem_append_left _ (List.mem_of_getElem? (i := 5) rfl)))))))))))))) (am_cons (List.mem_cons_of_mem _ (List.mem_append_left _ (List.mem_append_left _ (List.mem_append_left _ (List.mem_append_left _ (List.mem_append_left _ (List.mem_append_left _ (List.mem_append_left _ (List.mem_append_left _ (List.mem_append_left _ (List.mem_append_right _ (List.mem_append_right _ (List.mem_append_left _ (List.mem_of_getElem? (i := 6) rfl)))))))))))))) (am_cons (List.mem_cons_of_mem _ (List.mem_append_left _ (List.mem_append_left _ (List.mem_append_left _ (List.mem_append_left _ (List.mem_append_left _ (List.mem_append_left _ (List.mem_append_left _ (List.mem_append_left _ (List.mem_append_left _ (List.mem_append_right _ (List.mem_append_right _ (List.mem_append_left _ (List.mem_of_getElem? (i := 7) rfl)))))))))))))) (am_cons (List.mem_cons_of_mem _ (List.mem_append_left _ (List.mem_append_left _ (List.mem_append_left _ (List.mem_append_left _ (List.mem_append_left _ (List.mem_append_left _ (List.mem_append_left _ (List.mem_append_left _ (List.mem_append_left _ (List.mem_append_right _ (List.mem_append_right _ (List.mem_append_left _ (List.mem_of_getElem? (i := 8) rfl)))))))))))))) (am_cons (List.mem_cons_of_mem _ (List.mem_append_left _ (List.mem_append_left _ (List.mem_append_left _ (List.mem_append_left _ (List.mem_append_left _ (List.mem_append_left _ (List.mem_append_left _ (List.mem_append_left _ (List.mem_append_left _ (List.mem_append_right _ (List.mem_append_right _ (List.mem_append_left _ (List.mem_of_getElem? (i := 9) rfl)))))))))))))) am_nil)))))))))))))))))))))))) (am_cons (List.mem_cons_of_mem _ (List.mem_append_left _ (List.mem_append_left _ (List.mem_append_left _ (List.mem_append_left _ (List.mem_append_left _ (List.mem_append_left _ (List.mem_append_left _ (List.mem_append_left _ (List.mem_append_left _ (List.mem_append_right _ (List.mem_append_right _ (List.mem_append_left _ (List.mem_of_getElem? (i := 10) rfl)))))))))))))) (am_cons (List.mem_cons_of_mem _ (List.mem_append_left _ (List.mem_append_left _ (List.mem_append_left _ (List.mem_append_left _ (List.mem_append_left _ (List.mem_append_left _ (List.mem_append_left _ (List.mem_append_left _ (List.mem_append_left _ (List.mem_append_right _ (List.mem_append_right _ (List.mem_append_left _ (List.mem_of_getElem? (i := 11) rfl)))))))))))))) (am_cons (List.mem_cons_of_mem _ (List.mem_append_left _ (List.mem_append_left _ (List.mem_append_left _ (List.mem_append_left _ (List.mem_append_left _ (List.mem_append_left _ (List.mem_append_left _ (List.mem_append_left _ (List.mem_append_left _ (List.mem_append_right _ (List.mem_append_right _ (List.mem_append_left _ (List.mem_of_getElem? (i := 12) rfl)))))))))))))) (am_cons (List.mem_cons_of_mem _ (List.mem_append_left _ (List.mem_append_left _ (List.mem_append_left _ (List.mem_append_left _ (List.mem_append_left _ (List.mem_append_left _ (List.mem_append_left _ (List.mem_append_left _ (List.mem_append_left _ (List.mem_append_right _ (List.mem_append_right _ (List.mem_append_left _ (List.mem_of_getElem? (i := 13) rfl)))))))))))))) (am_cons (List.mem_cons_of_mem _ (List.mem_append_left _ (List.mem_append_left _ (List.mem_append_left _ (List.mem_append_left _ (List.mem_append_left _ (List.mem_append_left _ (List.mem_append_left _ (List.mem_append_left _ (List.mem_append_left _ (List.mem_append_right _ (List.mem_append_right _ (List.mem_append_left _ (List.mem_of_getElem? (i := 14) rfl)))))))))))))) (am_cons (List.mem_cons_of_mem _ (List.mem_append_left _ (List.mem_append_left _ (List.mem_append_left _ (List.mem_append_left _ (List.mem_append_left _ (List.mem_append_left _ (List.mem_append_left _ (List.mem_append_left _ (List.mem_append_left _ (List.mem_append_right _ (List.mem_append_right _ (List.mem_append_left _ (List.mem_of_getElem? (i := 15) rfl)))))))))))))) (am_cons (List.mem_cons_of_mem _ (List.mem_append_left _ (List.mem_append_left _ (List.mem_append_left _ (List.mem_append_left _ (List.mem_append_left _ (List.mem_append_left _ (List.mem_append_left _ (List.mem_append_left _ (List.mem_append_left _ (List.mem_append_right _ (List.mem_append_right _ (List.mem_append_left _ (List.mem_of_getElem? (i := 16) rfl)))))))))))))) (am_cons (List.mem_cons_of_mem _ (List.mem_append_left _ (List.mem_append_left _ (List.mem_append_left _ (List.mem_append_left _ (List.mem_append_left _ (List.mem_append_left _ (List.mem_append_left _ (List.mem_append_left _ (List.mem_append_left _ (List.mem_append_right _ (List.mem_append_right _ (List.mem_append_left _ (List.mem_of_getElem? (i := 17) rfl)))))))))))))) (am_cons (List.mem_cons_of_mem _ (List.mem_append_left _ (List.mem_append_left _ (List.mem_append_left _ (List.mem_append_left _ (List.mem_append_left _ (List.mem_append_left _ (List.mem_append_left _ (List.mem_append_left _ (List.mem_append_left _ (List.mem_append_right _ (List.mem_append_right _ (List.mem_append_left _ (List.mem_of_getElem? (i := 18) rfl)))))))))))))) (am_cons (List.mem_cons_of_mem _ (List.mem_append_left _ (List.mem_append_left _ (List.mem_append_left _ (List.mem_append_left _ (List.mem_append_left _ (List.mem_append_left _ (List.mem_append_left _ (List.mem_append_left _ (List.mem_append_left _ (List.mem_append_right _ (List.mem_append_right _ (List.mem_append_left _ (List.mem_of_getElem? (i := 19) rfl)))))))))))))) (am_cons (List.mem_cons_of_mem _ (List.mem_append_left _ (List.mem_append_left _ (List.mem_append_left _ (List.mem_append_left _ (List.mem_append_left _ (List.mem_append_left _ (List.mem_append_left _ (List.mem_append_left _ (List.mem_append_left _ (List.mem_append_right _ (List.mem_append_right _ (List.mem_append_left _ (List.mem_of_getElem? (i := 20) rfl)))))))))))))) (am_cons (List.mem_cons_of_mem _ (List.mem_append_left _ (List.mem_append_left _ (List.mem_append_left _ (List.mem_append_left _ (List.mem_append_left _ (List.mem_append_left _ (List.mem_append_left _ (List.mem_append_left _ (List.mem_append_left _ (List.mem_append_right _ (List.mem_append_right _ (List.mem_append_left _ (List.mem_of_getElem? (i := 21) rfl)))))))))))))) (am_cons (List.mem_cons_of_mem _ (List.mem_append_left _ (List.mem_append_left _ (List.mem_append_left _ (List.mem_append_left _ (List.mem_append_left _ (List.mem_append_left _ (List.mem_append_left _ (List.mem_append_left _ (List.mem_append_left _ (List.mem_append_right _ (List.mem_append_right _ (List.mem_append_left _ (List.mem_of_getElem? (i := 22) rfl)))))))))))))) (am_cons (List.mem_cons_of_mem _ (List.mem_append_left _ (List.mem_append_left _ (List.mem_append_left _ (List.mem_append_left _ (List.mem_append_left _ (List.mem_append_left _ (List.mem_append_left _ (List.mem_append_left _ (List.mem_append_left _ (List.mem_append_right _ (List.mem_append_right _ (List.mem_append_left _ (List.mem_of_getElem? (i := 23) rfl)))))))))))))) (am_cons (List.mem_cons_of_mem _ (List.mem_append_left _ (List.mem_append_left _ (List.mem_append_left _ (List.mem_append_left _ (List.mem_append_left _ (List.mem_append_left _ (List.mem_append_left _ (List.mem_append_left _ (List.mem_append_left _ (List.mem_append_right _ (List.mem_append_right _ (List.mem_append_right _ (List.mem_append_left _ (List.mem_of_getElem? (i := 0) rfl))))))))))))))) (am_cons (List.mem_cons_of_mem _ (List.mem_append_left _ (List.mem_append_left _ (List.mem_append_left _ (List.mem_append_left _ (List.mem_append_left _ (List.mem_append_left _ (List.mem_append_left _ (List.mem_append_left _ (List.mem_append_left _ (List.mem_append_right _ (List.mem_append_right _ (List.mem_append_right _ (List.mem_append_left _ (List.mem_of_getElem? (i := 1) rfl))))))))))))))) (am_cons (List.mem_cons_of_mem _ (List.mem_append_left _ (List.mem_append_left _ (List.mem_append_left _ (List.mem_append_left _ (List.mem_append_left _ (List.mem_append_left _ (List.mem_append_left _ (List.mem_append_left _ (List.mem_append_left _ (List.mem_append_right _ (List.mem_append_right _ (List.mem_append_right _ (List.mem_append_left _ (List.mem_of_getElem? (i := 2) rfl))))))))))))))) (am_cons (List.mem_cons_of_mem _ (List.mem_append_left _ (List.mem_append_left _ (List.mem_append_left _ (List.mem_append_left _ (List.mem_append_left _ (List.mem_append_left _ (List.mem_append_left _ (List.mem_append_left _ (List.mem_append_left _ (List.mem_append_right _ (List.mem_append_right _ (List.mem_append_right _ (List.mem_append_left _ (List.mem_of_getElem? (i := 3) rfl))))))))))))))) am_nil))))))))))))))))))) (fun _ h => List.mem_cons_of_mem _ (List.mem_append_left _ (List.mem_append_left _ (List.mem_append_left _ (List.mem_append_left _ (List.mem_append_left _ (List.mem_append_left _ (List.mem_append_left _ (List.mem_append_left _ (List.mem_append_right _ (h)))))))))))) (fun _ h => List.mem_cons_of_mem _ (List.mem_append_right _ (h))))) (by decide +kernel)
set_option maxRecDepth 20000 in
theorem gX8_init_X3_init : GoodIn wsX8_init (wsX3_init) := ggX8_init_X3_init
set_option maxRecDepth 20000 in
theorem ggX8_init_X4_init : GoodIn wsX8_init wsX4_init := goodIn_sub (am_cons (List.mem_cons_of_mem _ (List.mem_append_left _ (List.mem_append_left _ (List.mem_append_left _ (List.mem_append_left _ (List.mem_append_left _ (List.mem_append_left _ (List.mem_append_left _ (List.mem_append_left _ (List.mem_append_left _ (List.mem_append_right _ (List.mem_append_right _ (List.mem_append_right _ (List.mem_append_left _ (List.mem_of_getElem? (i := 5) rfl))))))))))))))) (am_app (am_cons (List.mem_cons_of_mem _ (List.mem_append_left _ (List.mem_append_left _ (List.mem_append_left _ (List.mem_append_left _ (List.mem_append_left _ (List.mem_append_left _ (List.mem_append_left _ (List.mem_append_left _ (List.mem_append_left _ (List.mem_append_right _ (List.mem_append_right _ (List.mem_append_right _ (List.mem_append_left _ (List.mem_of_getElem? (i := 6) rfl))))))))))))))) (am_cons (List.mem_cons_of_mem _ (List.mem_append_left _ (List.mem_append_left _ (List.mem_append_left _ (List.mem_append_left _ (List.mem_append_left _ (List.mem_append_left _ (List.mem_append_left _ (List.mem_append_left _ (List.mem_append_left _ (List.mem_append_left _ (List.mem_of_getElem? (i := 1) rfl)))))))))))) (am_cons (List.mem_cons_of_mem _ (List.mem_append_left _ (List.mem_append_left _ (List.mem_append_left _ (List.mem_append_left _ (List.mem_append_left _ (List.mem_append_left _ (List.mem_append_left _ (List.mem_append_left _ (List.mem_append_left _ (List.mem_append_left _ (List.mem_of_getElem? (i := 2) rfl)))))))))))) (am_cons (List.mem_cons_of_mem _ (List.mem_append_left _ (List.mem_append_left _ (List.mem_append_left _ (List.mem_append_left _ (List.mem_append_left _ (List.mem_append_left _ (List.mem_append_left _ (List.mem_append_left _ (List.mem_append_left _ (List.mem_append_right _ (List.mem_append_right _ (List.mem_append_right _ (List.mem_append_left _ (List.mem_of_getElem? (i := 7) rfl))))))))))))))) (am_cons (List.mem_cons_of_mem _ (List.mem_append_left _ (List.mem_append_left _ (List.mem_append_left _ (List.mem_append_left _ (List.mem_append_left _ (List.mem_append_left _ (List.mem_append_left _ (List.mem_append_left _ (List.mem_append_left _ (List.mem_append_right _ (List.mem_append_right _ (List.mem_append_right _ (List.mem_append_left _ (List.mem_of_getElem? (i := 8) rfl))))))))))))))) am_nil))))) (fun _ h => List.mem_cons_of_mem _ (List.mem_append_left _ (List.mem_append_left _ (List.mem_append_left _ (List.mem_append_left _ (List.mem_append_left _ (List.mem_append_left _ (List.mem_append_right _ (h))))))))))) (by decide +kernel)
set_option maxRecDepth 20000 in
theorem gX8_init_X4_init_n18 : GoodIn wsX8_init (wsX4_init) := ggX8_init_X4_init
set_option maxRecDepth 20000 in
theorem ggX8_init_X5_init : GoodIn wsX8_init wsX5_init := goodIn_sub (am_cons (List.mem_cons_of_mem _ (List.mem_append_left _ (List.mem_append_left _ (List.mem_append_left _ (List.mem_append_left _ (List.mem_append_left _ (List.mem_append_left _ (List.mem_append_left _ (List.mem_append_left _ (List.mem_append_left _ (List.mem_append_right _ (List.mem_append_right _ (List.mem_append_right _ (List.mem_append_left _ (List.mem_of_getElem? (i := 10) rfl))))))))))))))) (am_app (am_cons (List.mem_cons_of_mem _ (List.mem_append_left _ (List.mem_append_left _ (List.mem_append_left _ (List.mem_append_left _ (List.mem_append_left _ (List.mem_append_left _ (List.mem_append_left _ (List.mem_append_left _ (List.mem_append_left _ (List.mem_append_right _ (List.mem_append_right _ (List.mem_append_right _ (List.mem_append_left _ (List.mem_of_getElem? (i := 11) rfl))))))))))))))) (am_cons (List.mem_cons_of_mem _ (List.mem_append_left _ (List.mem_append_left _ (List.mem_append_left _ (List.mem_append_left _ (List.mem_append_left _ (List.mem_append_left _ (List.mem_append_left _ (List.mem_append_left _ (List.mem_append_left _ (List.mem_append_left _ (List.mem_of_getElem? (i := 1) rfl)))))))))))) (am_cons (List.mem_cons_of_mem _ (List.mem_append_left _ (List.mem_append_left _ (List.mem_append_left _ (List.mem_append_left _ (List.mem_append_left _ (List.mem_append_left _ (List.mem_append_left _ (List.mem_append_left _ (List.mem_append_left _ (List.mem_append_left _ (List.mem_of_getElem? (i := 2) rfl)))))))))))) (am_cons (List.mem_cons_of_mem _ (List.mem_append_left _ (List.mem_append_left _ (List.mem_append_left _ (List.mem_append_left _ (List.mem_append_left _ (List.mem_append_left _ (List.mem_append_left _ (List.mem_append_left _ (List.mem_append_left _ (List.mem_append_right _ (List.mem_append_right _ (List.mem_append_right _ (List.mem_append_left _ (List.mem_of_getElem? (i := 7) rfl))))))))))))))) (am_cons (List.mem_cons_of_mem _ (List.mem_append_left _ (List.mem_append_left _ (List.mem_append_left _ (List.mem_append_left _ (List.mem_append_left _ (List.mem_append_left _ (List.mem_append_left _ (List.mem_append_left _ (List.mem_append_left _ (List.mem_append_right _ (List.mem_append_right _ (List.mem_append_right _ (List.mem_append_left _ (List.mem_of_getElem? (i := 12) rfl))))))))))))))) am_nil))))) (fun _ h => List.mem_cons_of_mem _ (List.mem_append_left _ (List.mem_append_left _ (List.mem_append_left _ (List.mem_append_left _ (List.mem_append_left _ (List.mem_append_right _ (h)))))))))) (by decide +kernel)
set_option maxRecDepth 20000 in
theorem gX8_init_X5_init_n31 : GoodIn wsX8_init (wsX5_init) := ggX8_init_X5_init
set_option maxRecDepth 20000 in
theorem ggX8_init_X1_init : GoodIn wsX8_init wsX1_init := goodIn_sub (am_cons (List.mem_cons_of_mem _ (List.mem_append_left _ (List.mem_append_left _ (List.mem_append_left _ (List.mem_append_left _ (List.mem_append_left _ (List.mem_append_left _ (List.mem_append_left _ (List.mem_append_left _ (List.mem_append_left _ (List.mem_append_right _ (List.mem_append_right _ (List.mem_append_right _ (List.mem_append_left _ (List.mem_of_getElem? (i := 14) rfl))))))))))))))) (am_app (am_cons (List.mem_cons_of_mem _ (List.mem_append_left _ (List.mem_append_left _ (List.mem_append_left _ (List.mem_append_left _ (List.mem_append_left _ (List.mem_append_left _ (List.mem_append_left _ (List.mem_append_left _ (List.mem_append_left _ (List.mem_append_right _ (List.mem_append_right _ (List.mem_append_right _ (List.mem_append_left _ (List.mem_of_getElem? (i := 15) rfl))))))))))))))) (am_cons (List.mem_cons_of_mem _ (List.mem_append_left _ (List.mem_append_left _ (List.mem_append_left _ (List.mem_append_left _ (List.mem_append_left _ (List.mem_append_left _ (List.mem_append_left _ (List.mem_append_left _ (List.mem_append_left _ (List.mem_append_left _ (List.mem_of_getElem? (i := 1) rfl)))))))))))) (am_cons (List.mem_cons_of_mem _ (List.mem_append_left _ (List.mem_append_left _ (List.mem_append_left _ (List.mem_append_left _ (List.mem_append_left _ (List.mem_append_left _ (List.mem_append_left _ (List.mem_append_left _ (List.mem_append_left _ (List.mem_append_left _ (List.mem_of_getElem? (i := 2) rfl)))))))))))) (am_cons (List.mem_cons_of_mem _ (List.mem_append_left _ (List.mem_append_left _ (List.mem_append_left _ (List.mem_append_left _ (List.mem_append_left _ (List.mem_append_left _ (List.mem_append_left _ (List.mem_append_left _ (List.mem_append_left _ (List.mem_append_right _ (List.mem_append_right _ (List.mem_append_right _ (List.mem_append_left _ (List.mem_of_getElem? (i := 7) rfl))))))))))))))) (am_cons (List.mem_cons_of_mem _ (List.mem_append_left _ (List.mem_append_left _ (List.mem_append_left _ (List.mem_append_left _ (List.mem_append_left _ (List.mem_append_left _ (List.mem_append_left _ (List.mem_append_left _ (List.mem_append_left _ (List.mem_append_right _ (List.mem_append_right _ (List.mem_append_right _ (List.mem_append_left _ (List.mem_of_getElem? (i := 16) rfl))))))))))))))) (am_cons (List.mem_cons_of_mem _ (List.mem_append_left _ (List.mem_append_left _ (List.mem_append_left _ (List.mem_append_left _ (List.mem_append_left _ (List.mem_append_left _ (List.mem_append_left _ (List.mem_append_left _ (List.mem_append_left _ (List.mem_append_right _ (List.mem_append_right _ (List.mem_append_right _ (List.mem_append_left _ (List.mem_of_getElem? (i := 17) rfl))))))))))))))) (am_cons (List.mem_cons_of_mem _ (List.mem_append_left _ (List.mem_append_left _ (List.mem_append_left _ (List.mem_append_left _ (List.mem_append_left _ (List.mem_append_left _ (List.mem_append_left _ (List.mem_append_left _ (List.mem_append_left _ (List.mem_append_right _ (List.mem_append_right _ (List.mem_append_right _ (List.mem_append_left _ (List.mem_of_getElem? (i := 18) rfl))))))))))))))) am_nil))))))) (fun _ h => List.mem_cons_of_mem _ (List.mem_append_left _ (List.mem_append_left _ (List.mem_append_left _ (List.mem_append_left _ (List.mem_append_right _ (h))))))))) (by decide +kernel)
set_option maxRecDepth 20000 in
theorem gX8_init_X1_init_n38 : GoodIn wsX8_init (wsX1_init) := ggX8_init_X1_init
set_option maxRecDepth 20000 in
theorem ggX8_init_X0_init : GoodIn wsX8_init wsX0_init := goodIn_sub (am_cons (List.mem_cons_of_mem _ (List.mem_append_left _ (List.mem_append_left _ (List.mem_append_left _ (List.mem_append_left _ (List.mem_append_left _ (List.mem_append_left _ (List.mem_append_left _ (List.mem_append_left _ (List.mem_append_left _ (List.mem_append_right _ (List.mem_append_right _ (List.mem_append_right _ (List.mem_append_left _ (List.mem_of_getElem? (i := 20) rfl))))))))))))))) (am_app (am_cons (List.mem_cons_of_mem _ (List.mem_append_left _ (List.mem_append_left _ (List.mem_append_left _ (List.mem_append_left _ (List.mem_append_left _ (List.mem_append_left _ (List.mem_append_left _ (List.mem_append_left _ (List.mem_append_left _ (List.mem_append_right _ (List.mem_append_right _ (List.mem_append_right _ (List.mem_append_left _ (List.mem_of_getElem? (i := 21) rfl))))))))))))))) (am_cons (List.mem_cons_of_mem _ (List.mem_append_left _ (List.mem_append_left _ (List.mem_append_left _ (List.mem_append_left _ (List.mem_append_left _ (List.mem_append_left _ (List.mem_append_left _ (List.mem_append_left _ (List.mem_append_left _ (List.mem_append_left _ (List.mem_of_getElem? (i := 1) rfl)))))))))))) (am_cons (List.mem_cons_of_mem _ (List.mem_append_left _ (List.mem_append_left _ (List.mem_append_left _ (List.mem_append_left _ (List.mem_append_left _ (List.mem_append_left _ (List.mem_append_left _ (List.mem_append_left _ (List.mem_append_left _ (List.mem_append_left _ (List.mem_of_getElem? (i := 2) rfl)))))))))))) (am_cons (List.mem_cons_of_mem _ (List.mem_append_left _ (List.mem_append_left _ (List.mem_append_left _ (List.mem_append_left _ (List.mem_append_left _ (List.mem_append_left _ (List.mem_append_left _ (List.mem_append_left _ (List.mem_append_left _ (List.mem_append_right _ (List.mem_append_right _ (List.mem_append_right _ (List.mem_append_left _ (List.mem_of_getElem? (i := 7) rfl))))))))))))))) (am_cons (List.mem_cons_of_mem _ (List.mem_append_left _ (List.mem_append_left _ (List.mem_append_left _ (List.mem_append_left _ (List.mem_append_left _ (List.mem_append_left _ (List.mem_append_left _ (List.mem_append_left _ (List.mem_append_left _ (List.mem_append_right _ (List.mem_append_right _ (List.mem_append_right _ (List.mem_append_left _ (List.mem_of_getElem? (i := 22) rfl))))))))))))))) (am_cons (List.mem_cons_of_mem _ (List.mem_append_left _ (List.mem_append_left _ (List.mem_append_left _ (List.mem_append_left _ (List.mem_append_left _ (List.mem_append_left _ (List.mem_append_left _ (List.mem_append_left _ (List.mem_append_left _ (List.mem_append_right _ (List.mem_append_right _ (List.mem_append_right _ (List.mem_append_left _ (List.mem_of_getElem? (i := 23) rfl))))))))))))))) (am_cons (List.mem_cons_of_mem _ (List.mem_append_left _ (List.mem_append_left _ (List.mem_append_left _ (List.mem_append_left _ (List.mem_append_left _ (List.mem_append_left _ (List.mem_append_left _ (List.mem_append_left _ (List.mem_append_left _ (List.mem_append_right _ (List.mem_append_right _ (List.mem_append_right _ (List.mem_append_right _ (List.mem_of_getElem? (i := 0) rfl))))))))))))))) (am_cons (List.mem_cons_of_mem _ (List.mem_append_left _ (List.mem_append_left _ (List.mem_append_left _ (List.mem_append_left _ (List.mem_append_left _ (List.mem_append_left _ (List.mem_append_left _ (List.mem_append_left _ (List.mem_append_left _ (List.mem_append_right _ (List.mem_append_right _ (List.mem_append_right _ (List.mem_append_right _ (List.mem_of_getElem? (i := 1) rfl))))))))))))))) (am_cons (List.mem_cons_of_mem _ (List.mem_append_left _ (List.mem_append_left _ (List.mem_append_left _ (List.mem_append_left _ (List.mem_append_left _ (List.mem_append_left _ (List.mem_append_left _ (List.mem_append_left _ (List.mem_append_left _ (List.mem_append_right _ (List.mem_append_right _ (List.mem_append_right _ (List.mem_append_right _ (List.mem_of_getElem? (i := 2) rfl))))))))))))))) am_nil))))))))) (fun _ h => List.mem_cons_of_mem _ (List.mem_append_left _ (List.mem_append_left _ (List.mem_append_left _ (List.mem_append_right _ (h)))))))) (by decide +kernel)
set_option maxRecDepth 20000 in
theorem gX8_init_X0_init_n45 : GoodIn wsX8_init (wsX0_init) := ggX8_init_X0_init
set_option maxRecDepth 20000 in
theorem ggX8_init_X7_init : GoodIn wsX8_init wsX7_init := goodIn_sub (am_cons (List.mem_cons_of_mem _ (List.mem_append_left _ (List.mem_append_left _ (List.mem_append_left _ (List.mem_append_left _ (List.mem_append_left _ (List.mem_append_left _ (List.mem_append_left _ (List.mem_append_left _ (List.mem_append_left _ (List.mem_append_right _ (List.mem_append_right _ (List.mem_append_right _ (List.mem_append_right _ (List.mem_of_getElem? (i := 4) rfl))))))))))))))) (am_app (am_cons (List.mem_cons_of_mem _ (List.mem_append_left _ (List.mem_append_left _ (List.mem_append_left _ (List.mem_append_left _ (List.mem_append_left _ (List.mem_append_left _ (List.mem_append_left _ (List.mem_append_left _ (List.mem_append_left _ (List.mem_append_right _ (List.mem_append_right _ (List.mem_append_right _ (List.mem_append_right _ (List.mem_of_getElem? (i := 5) rfl))))))))))))))) (am_cons (List.mem_cons_of_mem _ (List.mem_append_left _ (List.mem_append_left _ (List.mem_append_left _ (List.mem_append_left _ (List.mem_append_left _ (List.mem_append_left _ (List.mem_append_left _ (List.mem_append_left _ (List.mem_append_left _ (List.mem_append_left _ (List.mem_of_getElem? (i := 1) rfl)))))))))))) (am_cons (List.mem_cons_of_mem _ (List.mem_append_left _ (List.mem_append_left _ (List.mem_append_left _ (List.mem_append_left _ (List.mem_append_left _ (List.mem_append_left _ (List.mem_append_left _ (List.mem_append_left _ (List.mem_append_left _ (List.mem_append_left _ (List.mem_of_getElem? (i := 2) rfl)))))))))))) (am_cons (List.mem_cons_of_mem _ (List.mem_append_left _ (List.mem_append_left _ (List.mem_append_left _ (List.mem_append_left _ (List.mem_append_left _ (List.mem_append_left _ (List.mem_append_left _ (List.mem_append_left _ (List.mem_append_left _ (List.mem_append_right _ (List.mem_append_right _ (List.mem_append_right _ (List.mem_append_left _ (List.mem_of_getElem? (i := 7) rfl))))))))))))))) (am_cons (List.mem_cons_of_mem _ (List.mem_append_left _ (List.mem_append_left _ (List.mem_append_left _ (List.mem_append_left _ (List.mem_append_left _ (List.mem_append_left _ (List.mem_append_left _ (List.mem_append_left _ (List.mem_append_left _ (List.mem_append_right _ (List.mem_append_right _ (List.mem_append_right _ (List.mem_append_right _ (List.mem_of_getElem? (i := 6) rfl))))))))))))))) (am_cons (List.mem_cons_of_mem _ (List.mem_append_left _ (List.mem_append_left _ (List.mem_append_left _ (List.mem_append_left _ (List.mem_append_left _ (List.mem_append_left _ (List.mem_append_left _ (List.mem_append_left _ (List.mem_append_left _ (List.mem_append_right _ (List.mem_append_right _ (List.mem_append_right _ (List.mem_append_right _ (List.mem_of_getElem? (i := 7) rfl))))))))))))))) am_nil)))))) (fun _ h => List.mem_cons_of_mem _ (List.mem_append_left _ (List.mem_append_left _ (List.mem_append_right _ (h))))))) (by decide +kernel)
set_option maxRecDepth 20000 in
theorem gX8_init_X7_init_n66 : GoodIn wsX8_init (wsX7_init) := ggX8_init_X7_init
set_option maxRecDepth 20000 in
theorem ggX8_init_X2_init : GoodIn wsX8_init wsX2_init := goodIn_sub (am_cons (List.mem_cons_of_mem _ (List.mem_append_left _ (List.mem_append_left _ (List.mem_append_left _ (List.mem_append_left _ (List.mem_append_left _ (List.mem_append_left _ (List.mem_append_left _ (List.mem_append_left _ (List.mem_append_left _ (List.mem_append_right _ (List.mem_append_right _ (List.mem_append_right _ (List.mem_append_right _ (List.mem_of_getElem? (i := 9) rfl))))))))))))))) (am_app (am_cons (List.mem_cons_of_mem _ (List.mem_append_left _ (List.mem_append_left _ (List.mem_append_left _ (List.mem_append_left _ (List.mem_append_left _ (List.mem_append_left _ (List.mem_append_left _ (List.mem_append_left _ (List.mem_append_left _ (List.mem_append_right _ (List.mem_append_right _ (List.mem_append_right _ (List.mem_append_right _ (List.mem_of_getElem? (i := 10) rfl))))))))))))))) (am_cons (List.mem_cons_of_mem _ (List.mem_append_left _ (List.mem_append_left _ (List.mem_append_left _ (List.mem_append_left _ (List.mem_append_left _ (List.mem_append_left _ (List.mem_append_left _ (List.mem_append_left _ (List.mem_append_left _ (List.mem_append_left _ (List.mem_of_getElem? (i := 1) rfl)))))))))))) (am_cons (List.mem_cons_of_mem _ (List.mem_append_left _ (List.mem_append_left _ (List.mem_append_left _ (List.mem_append_left _ (List.mem_append_left _ (List.mem_append_left _ (List.mem_append_left _ (List.mem_append_left _ (List.mem_append_left _ (List.mem_append_left _ (List.mem_of_getElem? (i := 2) rfl)))))))))))) (am_cons (List.mem_cons_of_mem _ (List.mem_append_left _ (List.mem_append_left _ (List.mem_append_left _ (List.mem_append_left _ (List.mem_append_left _ (List.mem_append_left _ (List.mem_append_left _ (List.mem_append_left _ (List.mem_append_left _ (List.mem_append_right _ (List.mem_append_right _ (List.mem_append_right _ (List.mem_append_left _ (List.mem_of_getElem? (i := 7) rfl))))))))))))))) (am_cons (List.mem_cons_of_mem _ (List.mem_append_left _ (List.mem_append_left _ (List.mem_append_left _ (List.mem_append_left _ (List.mem_append_left _ (List.mem_append_left _ (List.mem_append_left _ (List.mem_append_left _ (List.mem_append_left _ (List.mem_append_right _ (List.mem_append_right _ (List.mem_append_right _ (List.mem_append_right _ (List.mem_of_getElem? (i := 11) rfl))))))))))))))) am_nil))))) (fun _ h => List.mem_cons_of_mem _ (List.mem_append_left _ (List.mem_append_right _ (h)))))) (by decide +kernel)
set_option maxRecDepth 20000 in
theorem gX8_init_X2_init_n67 : GoodIn wsX8_init (wsX2_init) := ggX8_init_X2_init
theorem dX8_init_0 : decode cX8_init 0 = .ok (.aload_n 0, 1) := by decide +kernel
theorem dX8_init_1 : decode cX8_init 1 = .ok (.invokespecial 3, 3) := by decide +kernel
theorem dX8_init_4 : decode cX8_init 4 = .ok (.aload_n 0, 1) := by decide +kernel
theorem dX8_init_5 : decode cX8_init 5 = .ok (.new 9, 3) := by decide +kernel
theorem dX8_init_8 : decode cX8_init 8 = .ok (.dup, 1) := by decide +kernel
theorem dX8_init_9 : decode cX8_init 9 = .ok (.invokespecial 11, 3) := by decide +kernel
theorem dX8_init_12 : decode cX8_init 12 = .ok (.putfield 12, 3) := by decide +kernel
theorem dX8_init_15 : decode cX8_init 15 = .ok (.aload_n 0, 1) := by decide +kernel
theorem dX8_init_16 : decode cX8_init 16 = .ok (.new 16, 3) := by decide +kernel
theorem dX8_init_19 : decode cX8_init 19 = .ok (.dup, 1) := by decide +kernel
theorem dX8_init_20 : decode cX8_init 20 = .ok (.invokespecial 18, 3) := by decide +kernel
theorem dX8_init_23 : decode cX8_init 23 = .ok (.putfield 19, 3) := by decide +kernel
theorem dX8_init_26 : decode cX8_init 26 = .ok (.aload_n 0, 1) := by decide +kernel
theorem dX8_init_27 : decode cX8_init 27 = .ok (.iconst 4, 1) := by decide +kernel
theorem dX8_init_28 : decode cX8_init 28 = .ok (.anewarray 23, 3) := by decide +kernel
theorem dX8_init_31 : decode cX8_init 31 = .ok (.putfield 25, 3) := by decide +kernel
theorem dX8_init_34 : decode cX8_init 34 = .ok (.aload_n 0, 1) := by decide +kernel
theorem dX8_init_35 : decode cX8_init 35 = .ok (.new 29, 3) := by decide +kernel
theorem dX8_init_38 : decode cX8_init 38 = .ok (.dup, 1) := by decide +kernel
theorem dX8_init_39 : decode cX8_init 39 = .ok (.invokespecial 31, 3) := by decide +kernel
theorem dX8_init_42 : decode cX8_init 42 = .ok (.putfield 32, 3) := by decide +kernel
theorem dX8_init_45 : decode cX8_init 45 = .ok (.aload_n 0, 1) := by decide +kernel
theorem dX8_init_46 : decode cX8_init 46 = .ok (.new 36, 3) := by decide +kernel
theorem dX8_init_49 : decode cX8_init 49 = .ok (.dup, 1) := by decide +kernel
theorem dX8_init_50 : decode cX8_init 50 = .ok (.invokespecial 38, 3) := by decide +kernel
theorem dX8_init_53 : decode cX8_init 53 = .ok (.putfield 39, 3) := by decide +kernel
theorem dX8_init_56 : decode cX8_init 56 = .ok (.aload_n 0, 1) := by decide +kernel
theorem dX8_init_57 : decode cX8_init 57 = .ok (.new 43, 3) := by decide +kernel
theorem dX8_init_60 : decode cX8_init 60 = .ok (.dup, 1) := by decide +kernel
theorem dX8_init_61 : decode cX8_init 61 = .ok (.invokespecial 45, 3) := by decide +kernel
theorem dX8_init_64 : decode cX8_init 64 = .ok (.putfield 46, 3) := by decide +kernel
theorem dX8_init_67 : decode cX8_init 67 = .ok (.aload_n 0, 1) := by decide +kernel
theorem dX8_init_68 : decode cX8_init 68 = .ok (.iconst 4, 1) := by decide +kernel
theorem dX8_init_69 : decode cX8_init 69 = .ok (.anewarray 50, 3) := by decide +kernel
theorem dX8_init_72 : decode cX8_init 72 = .ok (.putfield 52, 3) := by decide +kernel
theorem dX8_init_75 : decode cX8_init 75 = .ok (.aload_n 0, 1) := by decide +kernel
theorem dX8_init_76 : decode cX8_init 76 = .ok (.sipush 150, 3) := by decide +kernel
theorem dX8_init_79 : decode cX8_init 79 = .ok (.putfield 56, 3) := by decide +kernel
theorem dX8_init_82 : decode cX8_init 82 = .ok (.aload_n 0, 1) := by decide +kernel
theorem dX8_init_83 : decode cX8_init 83 = .ok (.bipush 120, 2) := by decide +kernel
theorem dX8_init_85 : decode cX8_init 85 = .ok (.putfield 60, 3) := by decide +kernel
theorem dX8_init_88 : decode cX8_init 88 = .ok (.aload_n 0, 1) := by decide +kernel
theorem dX8_init_89 : decode cX8_init 89 = .ok (.iconst 2, 1) := by decide +kernel
theorem dX8_init_90 : decode cX8_init 90 = .ok (.putfield 63, 3) := by decide +kernel
theorem dX8_init_93 : decode cX8_init 93 = .ok (.iconst 0, 1) := by decide +kernel
theorem dX8_init_94 : decode cX8_init 94 = .ok (.istore_n 1, 1) := by decide +kernel
theorem dX8_init_95 : decode cX8_init 95 = .ok (.iload_n 1, 1) := by decide +kernel
theorem dX8_init_96 : decode cX8_init 96 = .ok (.aload_n 0, 1) := by decide +kernel
theorem dX8_init_97 : decode cX8_init 97 = .ok (.getfield 25, 3) := by decide +kernel
theorem dX8_init_100 : decode cX8_init 100 = .ok (.arraylength, 1) := by decide +kernel
theorem dX8_init_101 : decode cX8_init 101 = .ok (.if_icmp .ge 22, 3) := by decide +kernel
theorem dX8_init_104 : decode cX8_init 104 = .ok (.aload_n 0, 1) := by decide +kernel
theorem dX8_init_105 : decode cX8_init 105 = .ok (.getfield 25, 3) := by decide +kernel
theorem dX8_init_108 : decode cX8_init 108 = .ok (.iload_n 1, 1) := by decide +kernel
theorem dX8_init_109 : decode cX8_init 109 = .ok (.new 23, 3) := by decide +kernel
theorem dX8_init_112 : decode cX8_init 112 = .ok (.dup, 1) := by decide +kernel
theorem dX8_init_113 : decode cX8_init 113 = .ok (.invokespecial 66, 3) := by decide +kernel
theorem dX8_init_116 : decode cX8_init 116 = .ok (.aastore, 1) := by decide +kernel
theorem dX8_init_117 : decode cX8_init 117 = .ok (.iinc 1 1, 3) := by decide +kernel
theorem dX8_init_120 : decode cX8_init 120 = .ok (.goto (-25), 3) := by decide +kernel
theorem dX8_init_123 : decode cX8_init 123 = .ok (.iconst 0, 1) := by decide +kernel
theorem dX8_init_124 : decode cX8_init 124 = .ok (.istore_n 1, 1) := by decide +kernel
theorem dX8_init_125 : decode cX8_init 125 = .ok (.iload_n 1, 1) := by decide +kernel
theorem dX8_init_126 : decode cX8_init 126 = .ok (.aload_n 0, 1) := by decide +kernel
theorem dX8_init_127 : decode cX8_init 127 = .ok (.getfield 52, 3) := by decide +kernel
theorem dX8_init_130 : decode cX8_init 130 = .ok (.arraylength, 1) := by decide +kernel
theorem dX8_init_131 : decode cX8_init 131 = .ok (.if_icmp .ge 22, 3) := by decide +kernel
theorem dX8_init_134 : decode cX8_init 134 = .ok (.aload_n 0, 1) := by decide +kernel
theorem dX8_init_135 : decode cX8_init 135 = .ok (.getfield 52, 3) := by decide +kernel
theorem dX8_init_138 : decode cX8_init 138 = .ok (.iload_n 1, 1) := by decide +kernel
theorem dX8_init_139 : decode cX8_init 139 = .ok (.new 50, 3) := by decide +kernel
theorem dX8_init_142 : decode cX8_init 142 = .ok (.dup, 1) := by decide +kernel
theorem dX8_init_143 : decode cX8_init 143 = .ok (.invokespecial 67, 3) := by decide +kernel
theorem dX8_init_146 : decode cX8_init 146 = .ok (.aastore, 1) := by decide +kernel
theorem dX8_init_147 : decode cX8_init 147 = .ok (.iinc 1 1, 3) := by decide +kernel
theorem dX8_init_150 : decode cX8_init 150 = .ok (.goto (-25), 3) := by decide +kernel
theorem dX8_init_153 : decode cX8_init 153 = .ok (.return_, 1) := by decide +kernel
set_option maxRecDepth 20000 in
theorem ggX8_shaft_X3_addShaft : GoodIn wsX8_shaft wsX3_addShaft := goodIn_sub (am_cons (List.mem_cons_of_mem _ (List.mem_append_left _ (List.mem_append_left _ (List.mem_append_left _ (List.mem_append_left _ (List.mem_append_left _ (List.mem_of_getElem? (i := 6) rfl))))))) (am_app (am_app (am_app (am_cons (List.mem_cons_of_mem _ (List.mem_append_left _ (List.mem_append_left _ (List.mem_append_left _ (List.mem_append_left _ (List.mem_append_left _ (List.mem_of_getElem? (i := 7) rfl))))))) (am_cons (List.mem_cons_of_mem _ (List.mem_append_left _ (List.mem_append_left _ (List.mem_append_left _ (List.mem_append_left _ (List.mem_append_left _ (List.mem_of_getElem? (i := 8) rfl))))))) (am_cons (List.mem_cons_of_mem _ (List.mem_append_left _ (List.mem_append_left _ (List.mem_append_left _ (List.mem_append_left _ (List.mem_append_left _ (List.mem_of_getElem? (i := 9) rfl))))))) (am_cons (List.mem_cons_of_mem _ (List.mem_append_left _ (List.mem_append_left _ (List.mem_append_left _ (List.mem_append_left _ (List.mem_append_left _ (List.mem_of_getElem? (i := 10) rfl))))))) (am_cons (List.mem_cons_of_mem _ (List.mem_append_left _ (List.mem_append_left _ (List.mem_append_left _ (List.mem_append_left _ (List.mem_append_left _ (List.mem_of_getElem? (i := 11) rfl))))))) (am_cons (List.mem_cons_of_mem _ (List.mem_append_left _ (List.mem_append_left _ (List.mem_append_left _ (List.mem_append_left _ (List.mem_append_left _ (List.mem_of_getElem? (i := 12) rfl))))))) (am_cons (List.mem_cons_of_mem _ (List.mem_append_left _ (List.mem_append_left _ (List.mem_append_left _ (List.mem_append_left _ (List.mem_append_left _ (List.mem_of_getElem? (i := 13) rfl))))))) (am_cons (List.mem_cons_of_mem _ (List.mem_append_left _ (List.mem_append_left _ (List.mem_append_left _ (List.mem_append_left _ (List.mem_append_left _ (List.mem_of_getElem? (i := 14) rfl))))))) (am_cons (List.mem_cons_of_mem _ (List.mem_append_left _ (List.mem_append_left _ (List.mem_append_left _ (List.mem_append_left _ (List.mem_append_left _ (List.mem_of_getElem? (i := 5) rfl))))))) (am_cons (List.mem_cons_of_mem _ (List.mem_append_left _ (List.mem_append_left _ (List.mem_append_left _ (List.mem_append_left _ (List.mem_append_left _ (List.mem_of_getElem? (i := 15) rfl))))))) (am_cons (List.mem_cons_of_mem _ (List.mem_append_left _ (List.mem_append_left _ (List.mem_append_left _ (List.mem_append_left _ (List.mem_append_left _ (List.mem_of_getElem? (i := 16) rfl))))))) (am_cons (List.mem_cons_of_mem _ (List.mem_append_left _ (List.mem_append_left _ (List.mem_append_left _ (List.mem_append_left _ (List.mem_append_left _ (List.mem_of_getElem? (i := 17) rfl))))))) (am_cons (List.mem_cons_of_mem _ (List.mem_append_left _ (List.mem_append_left _ (List.mem_append_left _ (List.mem_append_left _ (List.mem_append_left _ (List.mem_of_getElem? (i := 18) rfl))))))) (am_cons (List.mem_cons_of_mem _ (List.mem_append_left _ (List.mem_append_left _ (List.mem_append_left _ (List.mem_append_left _ (List.mem_append_left _ (List.mem_of_getElem? (i := 19) rfl))))))) (am_cons (List.mem_cons_of_mem _ (List.mem_append_left _ (List.mem_append_left _ (List.mem_append_left _ (List.mem_append_left _ (List.mem_append_left _ (List.mem_of_getElem? (i := 20) rfl))))))) (am_cons (List.mem_cons_of_mem _ (List.mem_append_left _ (List.mem_append_left _ (List.mem_append_left _ (List.mem_append_left _ (List.mem_append_left _ (List.mem_of_getElem? (i := 21) rfl))))))) (am_cons (List.mem_cons_of_mem _ (List.mem_append_left _ (List.mem_append_left _ (List.mem_append_left _ (List.mem_append_left _ (List.mem_append_left _ (List.mem_of_getElem? (i := 22) rfl))))))) (am_cons (List.mem_cons_of_mem _ (List.mem_append_left _ (List.mem_append_left _ (List.mem_append_left _ (List.mem_append_left _ (List.mem_append_left _ (List.mem_of_getElem? (i := 23) rfl))))))) (am_cons (List.mem_cons_of_mem _ (List.mem_append_left _ (List.mem_append_left _ (List.mem_append_left _ (List.mem_append_left _ (List.mem_append_right _ (List.mem_append_left _ (List.mem_of_getElem? (i := 0) rfl)))))))) (am_cons (List.mem_cons_of_mem _ (List.mem_append_left _ (List.mem_append_left _ (List.mem_append_left _ (List.mem_append_left _ (List.mem_append_right _ (List.mem_append_left _ (List.mem_of_getElem? (i := 1) rfl)))))))) (am_cons (List.mem_cons_of_mem _ (List.mem_append_left _ (List.mem_append_left _ (List.mem_append_left _ (List.mem_append_left _ (List.mem_append_right _ (List.mem_append_left _ (List.mem_of_getElem? (i := 2) rfl)))))))) (am_cons (List.mem_cons_of_mem _ (List.mem_append_left _ (List.mem_append_left _ (List.mem_append_left _ (List.mem_append_left _ (List.mem_append_right _ (List.mem_append_left _ (List.mem_of_getElem? (i := 3) rfl)))))))) (am_cons (List.mem_cons_of_mem _ (List.mem_append_left _ (List.mem_append_left _ (List.mem_append_left _ (List.mem_append_left _ (List.mem_append_right _ (List.mem_append_left _ (List.mem_of_getElem? (i := 4) rfl)))))))) (am_cons (List.mem_cons_of_mem _ (List.mem_append_left _ (List.mem_append_left _ (List.mem_append_left _ (List.mem_append_left _ (List.mem_append_right _ (List.mem_append_left _ (List.mem_of_getElem? (i := 5) rfl)))))))) am_nil)))))))))))))))))))))))) (am_app (am_cons (List.mem_cons_of_mem _ (List.mem_append_left _ (List.mem_append_left _ (List.mem_append_left _ (List.mem_append_left _ (List.mem_append_right _ (List.mem_append_left _ (List.mem_of_getElem? (i := 6) rfl)))))))) (am_cons (List.mem_cons_of_mem _ (List.mem_append_left _ (List.mem_append_left _ (List.mem_append_left _ (List.mem_append_left _ (List.mem_append_right _ (List.mem_append_left _ (List.mem_of_getElem? (i := 7) rfl)))))))) (am_cons (List.mem_cons_of_mem _ (List.mem_append_left _ (List.mem_append_left _ (List.mem_append_left _ (List.mem_append_left _ (List.mem_append_right _ (List.mem_append_left _ (List.mem_of_getElem? (i := 8) rfl)))))))) (am_cons (List.mem_cons_of_mem _ (List.mem_append_left _ (List.mem_append_left _ (List.mem_append_left _ (List.mem_append_left _ (List.mem_append_right _ (List.mem_append_left _ (List.mem_of_getElem? (i := 9) rfl)))))))) (am_cons (List.mem_cons_of_mem _ (List.mem_append_left _ (List.mem_append_left _ (List.mem_append_left _ (List.mem_append_left _ (List.mem_append_right _ (List.mem_append_left _ (List.mem_of_getElem? (i := 10) rfl)))))))) (am_cons (List.mem_cons_of_mem _ (List.mem_append_left _ (List.mem_append_left _ (List.mem_append_left _ (List.mem_append_left _ (List.mem_append_right _ (List.mem_append_left _ (List.mem_of_getElem? (i := 11) rfl)))))))) (am_cons (List.mem_cons_of_mem _ (List.mem_append_left _ (List.mem_append_left _ (List.mem_append_left _ (List.mem_append_left _ (List.mem_append_right _ (List.mem_append_left _ (List.mem_of_getElem? (i := 12) rfl)))))))) (am_cons (List.mem_cons_of_mem _ (List.mem_append_left _ (List.mem_append_left _ (List.mem_append_left _ (List.mem_append_left _ (List.mem_append_right _ (List.mem_append_left _ (List.mem_of_getElem? (i := 13) rfl)))))))) (am_cons (List.mem_cons_of_mem _ (List.mem_append_left _ (List.mem_append_left _ (List.mem_append_left _ (List.mem_append_left _ (List.mem_append_right _ (List.mem_append_left _ (List.mem_of_getElem? (i := 14) rfl)))))))) (am_cons (List.mem_cons_of_mem _ (List.mem_append_left _ (List.mem_append_left _ (List.mem_append_left _ (List.mem_append_left _ (List.mem_append_right _ (List.mem_append_left _ (List.mem_of_getElem? (i := 15) rfl)))))))) (am_cons (List.mem_cons_of_mem _ (List.mem_append_left _ (List.mem_append_left _ (List.mem_append_left _ (List.mem_append_left _ (List.mem_append_right _ (List.mem_append_left _ (List.mem_of_getElem? (i := 16) rfl)))))))) (am_cons (List.mem_cons_of_mem _ (List.mem_append_left _ (List.mem_append_left _ (List.mem_append_left _ (List.mem_append_left _ (List.mem_append_right _ (List.mem_append_left _ (List.mem_of_getElem? (i := 17) rfl)))))))) (am_cons (List.mem_cons_of_mem _ (List.mem_append_left _ (List.mem_append_left _ (List.mem_append_left _ (List.mem_append_left _ (List.mem_append_right _ (List.mem_append_left _ (List.mem_of_getElem? (i := 18) rfl)))))))) (am_cons (List.mem_cons_of_mem _ (List.mem_append_left _ (List.mem_append_left _ (List.mem_append_left _ (List.mem_append_left _ (List.mem_append_right _ (List.mem_append_left _ (List.mem_of_getElem? (i := 19) rfl)))))))) (am_cons (List.mem_cons_of_mem _ (List.mem_append_left _ (List.mem_append_left _ (List.mem_append_left _ (List.mem_append_left _ (List.mem_append_right _ (List.mem_append_left _ (List.mem_of_getElem? (i := 20) rfl)))))))) (am_cons (List.mem_cons_of_mem _ (List.mem_append_left _ (List.mem_append_left _ (List.mem_append_left _ (List.mem_append_left _ (List.mem_append_right _ (List.mem_append_left _ (List.mem_of_getElem? (i := 21) rfl)))))))) (am_cons (List.mem_cons_of_mem _ (List.mem_append_left _ (List.mem_append_left _ (List.mem_append_left _ (List.mem_append_left _ (List.mem_append_right _ (List.mem_append_left _ (List.mem_of_getElem? (i := 22) rfl)))))))) (am_cons (List.mem_cons_of_mem _ (List.mem_append_left _ (List.mem_append_left _ (List.mem_append_left _ (List.mem_append_left _ (List.mem_append_right _ (List.mem_append_left _ (List.mem_of_getElem? (i := 23) rfl)))))))) (am_cons (List.mem_cons_of_mem _ (List.mem_append_left _ (List.mem_append_left _ (List.mem_append_left _ (List.mem_append_left _ (List.mem_append_right _ (List.mem_append_right _ (List.mem_of_getElem? (i := 0) rfl)))))))) (am_cons (List.mem_cons_of_mem _ (List.mem_append_left _ (List.mem_append_left _ (List.mem_append_left _ (List.mem_append_left _ (List.mem_append_right _ (List.mem_append_right _ (List.mem_of_getElem? (i := 1) rfl)))))))) (am_cons (List.mem_cons_of_mem _ (List.mem_append_left _ (List.mem_append_left _ (List.mem_append_left _ (List.mem_append_left _ (List.mem_append_right _ (List.mem_append_right _ (List.mem_of_getElem? (i := 2) rfl)))))))) (am_cons (List.mem_cons_of_mem _ (List.mem_append_left _ (List.mem_append_left _ (List.mem_append_left _ (List.mem_append_left _ (List.mem_append_right _ (List.mem_append_right _ (List.mem_of_getElem? (i := 3) rfl)))))))) (am_cons (List.mem_cons_of_mem _ (List.mem_append_left _ (List.mem_append_left _ (List.mem_append_left _ (List.mem_append_left _ (List.mem_append_right _ (List.mem_append_right _ (List.mem_of_getElem? (i := 4) rfl)))))))) (am_cons (List.mem_cons_of_mem _ (List.mem_append_left _ (List.mem_append_left _ (List.mem_append_left _ (List.mem_append_left _ (List.mem_append_right _ (List.mem_append_right _ (List.mem_of_getElem? (i := 5) rfl)))))))) am_nil)))))))))))))))))))))))) (am_cons (List.mem_cons_of_mem _ (List.mem_append_left _ (List.mem_append_left _ (List.mem_append_left _ (List.mem_append_left _ (List.mem_append_right _ (List.mem_append_right _ (List.mem_of_getElem? (i := 6) rfl)))))))) (am_cons (List.mem_cons_of_mem _ (List.mem_append_left _ (List.mem_append_left _ (List.mem_append_left _ (List.mem_append_left _ (List.mem_append_right _ (List.mem_append_right _ (List.mem_of_getElem? (i := 7) rfl)))))))) am_nil)))) (fun _ h => List.mem_cons_of_mem _ (List.mem_append_left _ (List.mem_append_left _ (List.mem_append_right _ (h)))))) (fun _ h => List.mem_cons_of_mem _ (List.mem_append_left _ (List.mem_append_right _ (h)))))) (by decide +kernel)
set_option maxRecDepth 20000 in
theorem gX8_shaft_X3_addShaft : GoodIn wsX8_shaft (wsV RX8 68 RX3 yX3_addShaft wsX3_addShaft) := goodIn_app (goodIn_sub (am_cons (List.mem_cons_of_mem _ (List.mem_append_left _ (List.mem_append_left _ (List.mem_append_left _ (List.mem_append_left _ (List.mem_append_left _ (List.mem_of_getElem? (i := 2) rfl))))))) (am_cons (List.mem_cons_of_mem _ (List.mem_append_left _ (List.mem_append_left _ (List.mem_append_left _ (List.mem_append_left _ (List.mem_append_left _ (List.mem_of_getElem? (i := 3) rfl))))))) (am_cons (List.mem_cons_of_mem _ (List.mem_append_left _ (List.mem_append_left _ (List.mem_append_left _ (List.mem_append_left _ (List.mem_append_left _ (List.mem_of_getElem? (i := 4) rfl))))))) (am_cons (List.mem_cons_of_mem _ (List.mem_append_left _ (List.mem_append_left _ (List.mem_append_left _ (List.mem_append_left _ (List.mem_append_left _ (List.mem_of_getElem? (i := 5) rfl))))))) am_nil)))) (by decide +kernel)) ggX8_shaft_X3_addShaft
set_option maxRecDepth 20000 in
theorem ggX8_shaft_X0_forget : GoodIn wsX8_shaft wsX0_forget := goodIn_sub (am_cons (List.mem_cons_of_mem _ (List.mem_append_left _ (List.mem_append_left _ (List.mem_append_left _ (List.mem_append_left _ (List.mem_append_right _ (List.mem_append_right _ (List.mem_of_getElem? (i := 12) rfl)))))))) (am_app (am_cons (List.mem_cons_of_mem _ (List.mem_append_left _ (List.mem_append_left _ (List.mem_append_left _ (List.mem_append_left _ (List.mem_append_right _ (List.mem_append_right _ (List.mem_of_getElem? (i := 13) rfl)))))))) am_nil) (fun _ h => List.mem_cons_of_mem _ (List.mem_append_right _ (h))))) (by decide +kernel)
set_option maxRecDepth 20000 in
theorem gX8_shaft_X0_forget : GoodIn wsX8_shaft (wsV RX8 72 RX0 yX0_forget wsX0_forget) := goodIn_app (goodIn_sub (am_cons (List.mem_cons_of_mem _ (List.mem_append_left _ (List.mem_append_left _ (List.mem_append_left _ (List.mem_append_left _ (List.mem_append_right _ (List.mem_append_right _ (List.mem_of_getElem? (i := 8) rfl)))))))) (am_cons (List.mem_cons_of_mem _ (List.mem_append_left _ (List.mem_append_left _ (List.mem_append_left _ (List.mem_append_left _ (List.mem_append_right _ (List.mem_append_right _ (List.mem_of_getElem? (i := 9) rfl)))))))) (am_cons (List.mem_cons_of_mem _ (List.mem_append_left _ (List.mem_append_left _ (List.mem_append_left _ (List.mem_append_left _ (List.mem_append_right _ (List.mem_append_right _ (List.mem_of_getElem? (i := 10) rfl)))))))) (am_cons (List.mem_cons_of_mem _ (List.mem_append_left _ (List.mem_append_left _ (List.mem_append_left _ (List.mem_append_left _ (List.mem_append_right _ (List.mem_append_right _ (List.mem_of_getElem? (i := 11) rfl)))))))) am_nil)))) (by decide +kernel)) ggX8_shaft_X0_forget
theorem dX8_shaft_0 : decode cX8_shaft 0 = .ok (.aload_n 0, 1) := by decide +kernel
theorem dX8_shaft_1 : decode cX8_shaft 1 = .ok (.getfield 12, 3) := by decide +kernel
theorem dX8_shaft_4 : decode cX8_shaft 4 = .ok (.iload_n 1, 1) := by decide +kernel
theorem dX8_shaft_5 : decode cX8_shaft 5 = .ok (.iload_n 2, 1) := by decide +kernel
theorem dX8_shaft_6 : decode cX8_shaft 6 = .ok (.iload_n 3, 1) := by decide +kernel
theorem dX8_shaft_7 : decode cX8_shaft 7 = .ok (.invokevirtual 68, 3) := by decide +kernel
theorem dX8_shaft_10 : decode cX8_shaft 10 = .ok (.istore 4, 2) := by decide +kernel
theorem dX8_shaft_12 : decode cX8_shaft 12 = .ok (.iload 4, 2) := by decide +kernel
theorem dX8_shaft_14 : decode cX8_shaft 14 = .ok (.ifCond .lt 10, 3) := by decide +kernel
theorem dX8_shaft_17 : decode cX8_shaft 17 = .ok (.aload_n 0, 1) := by decide +kernel
theorem dX8_shaft_18 : decode cX8_shaft 18 = .ok (.getfield 46, 3) := by decide +kernel
theorem dX8_shaft_21 : decode cX8_shaft 21 = .ok (.invokevirtual 72, 3) := by decide +kernel
theorem dX8_shaft_24 : decode cX8_shaft 24 = .ok (.iload 4, 2) := by decide +kernel
theorem dX8_shaft_26 : decode cX8_shaft 26 = .ok (.ireturn, 1) := by decide +kernel
set_option maxRecDepth 20000 in
theorem ggX8_ring_X3_addRing : GoodIn wsX8_ring wsX3_addRing := goodIn_sub (am_cons (List.mem_cons_of_mem _ (List.mem_append_left _ (List.mem_append_left _ (List.mem_append_left _ (List.mem_append_left _ (List.mem_append_left _ (List.mem_of_getElem? (i := 6) rfl))))))) (am_app (am_app (am_app (am_cons (List.mem_cons_of_mem _ (List.mem_append_left _ (List.mem_append_left _ (List.mem_append_left _ (List.mem_append_left _ (List.mem_append_left _ (List.mem_of_getElem? (i := 7) rfl))))))) (am_cons (List.mem_cons_of_mem _ (List.mem_append_left _ (List.mem_append_left _ (List.mem_append_left _ (List.mem_append_left _ (List.mem_append_left _ (List.mem_of_getElem? (i := 8) rfl))))))) (am_cons (List.mem_cons_of_mem _ (List.mem_append_left _ (List.mem_append_left _ (List.mem_append_left _ (List.mem_append_left _ (List.mem_append_left _ (List.mem_of_getElem? (i := 9) rfl))))))) (am_cons (List.mem_cons_of_mem _ (List.mem_append_left _ (List.mem_append_left _ (List.mem_append_left _ (List.mem_append_left _ (List.mem_append_left _ (List.mem_of_getElem? (i := 10) rfl))))))) (am_cons (List.mem_cons_of_mem _ (List.mem_append_left _ (List.mem_append_left _ (List.mem_append_left _ (List.mem_append_left _ (List.mem_append_left _ (List.mem_of_getElem? (i := 11) rfl))))))) (am_cons (List.mem_cons_of_mem _ (List.mem_append_left _ (List.mem_append_left _ (List.mem_append_left _ (List.mem_append_left _ (List.mem_append_left _ (List.mem_of_getElem? (i := 5) rfl))))))) (am_cons (List.mem_cons_of_mem _ (List.mem_append_left _ (List.mem_append_left _ (List.mem_append_left _ (List.mem_append_left _ (List.mem_append_left _ (List.mem_of_getElem? (i := 12) rfl))))))) (am_cons (List.mem_cons_of_mem _ (List.mem_append_left _ (List.mem_append_left _ (List.mem_append_left _ (List.mem_append_left _ (List.mem_append_left _ (List.mem_of_getElem? (i := 13) rfl))))))) (am_cons (List.mem_cons_of_mem _ (List.mem_append_left _ (List.mem_append_left _ (List.mem_append_left _ (List.mem_append_left _ (List.mem_append_left _ (List.mem_of_getElem? (i := 14) rfl))))))) (am_cons (List.mem_cons_of_mem _ (List.mem_append_left _ (List.mem_append_left _ (List.mem_append_left _ (List.mem_append_left _ (List.mem_append_left _ (List.mem_of_getElem? (i := 15) rfl))))))) (am_cons (List.mem_cons_of_mem _ (List.mem_append_left _ (List.mem_append_left _ (List.mem_append_left _ (List.mem_append_left _ (List.mem_append_left _ (List.mem_of_getElem? (i := 16) rfl))))))) (am_cons (List.mem_cons_of_mem _ (List.mem_append_left _ (List.mem_append_left _ (List.mem_append_left _ (List.mem_append_left _ (List.mem_append_left _ (List.mem_of_getElem? (i := 17) rfl))))))) (am_cons (List.mem_cons_of_mem _ (List.mem_append_left _ (List.mem_append_left _ (List.mem_append_left _ (List.mem_append_left _ (List.mem_append_left _ (List.mem_of_getElem? (i := 18) rfl))))))) (am_cons (List.mem_cons_of_mem _ (List.mem_append_left _ (List.mem_append_left _ (List.mem_append_left _ (List.mem_append_left _ (List.mem_append_left _ (List.mem_of_getElem? (i := 19) rfl))))))) (am_cons (List.mem_cons_of_mem _ (List.mem_append_left _ (List.mem_append_left _ (List.mem_append_left _ (List.mem_append_left _ (List.mem_append_left _ (List.mem_of_getElem? (i := 20) rfl))))))) (am_cons (List.mem_cons_of_mem _ (List.mem_append_left _ (List.mem_append_left _ (List.mem_append_left _ (List.mem_append_left _ (List.mem_append_left _ (List.mem_of_getElem? (i := 21) rfl))))))) (am_cons (List.mem_cons_of_mem _ (List.mem_append_left _ (List.mem_append_left _ (List.mem_append_left _ (List.mem_append_left _ (List.mem_append_left _ (List.mem_of_getElem? (i := 22) rfl))))))) (am_cons (List.mem_cons_of_mem _ (List.mem_append_left _ (List.mem_append_left _ (List.mem_append_left _ (List.mem_append_left _ (List.mem_append_left _ (List.mem_of_getElem? (i := 23) rfl))))))) (am_cons (List.mem_cons_of_mem _ (List.mem_append_left _ (List.mem_append_left _ (List.mem_append_left _ (List.mem_append_left _ (List.mem_append_right _ (List.mem_append_left _ (List.mem_of_getElem? (i := 0) rfl)))))))) (am_cons (List.mem_cons_of_mem _ (List.mem_append_left _ (List.mem_append_left _ (List.mem_append_left _ (List.mem_append_left _ (List.mem_append_right _ (List.mem_append_left _ (List.mem_of_getElem? (i := 1) rfl)))))))) (am_cons (List.mem_cons_of_mem _ (List.mem_append_left _ (List.mem_append_left _ (List.mem_append_left _ (List.mem_append_left _ (List.mem_append_right _ (List.mem_append_left _ (List.mem_of_getElem? (i := 2) rfl)))))))) (am_cons (List.mem_cons_of_mem _ (List.mem_append_left _ (List.mem_append_left _ (List.mem_append_left _ (List.mem_append_left _ (List.mem_append_right _ (List.mem_append_left _ (List.mem_of_getElem? (i := 3) rfl)))))))) (am_cons (List.mem_cons_of_mem _ (List.mem_append_left _ (List.mem_append_left _ (List.mem_append_left _ (List.mem_append_left _ (List.mem_append_right _ (List.mem_append_left _ (List.mem_of_getElem? (i := 4) rfl)))))))) (am_cons (List.mem_cons_of_mem _ (List.mem_append_left _ (List.mem_append_left _ (List.mem_append_left _ (List.mem_append_left _ (List.mem_append_right _ (List.mem_append_left _ (List.mem_of_getElem? (i := 5) rfl)))))))) am_nil)))))))))))))))))))))))) (am_app (am_cons (List.mem_cons_of_mem _ (List.mem_append_left _ (List.mem_append_left _ (List.mem_append_left _ (List.mem_append_left _ (List.mem_append_right _ (List.mem_append_left _ (List.mem_of_getElem? (i := 6) rfl)))))))) (am_cons (List.mem_cons_of_mem _ (List.mem_append_left _ (List.mem_append_left _ (List.mem_append_left _ (List.mem_append_left _ (List.mem_append_right _ (List.mem_append_left _ (List.mem_of_getElem? (i := 7) rfl)))))))) (am_cons (List.mem_cons_of_mem _ (List.mem_append_left _ (List.mem_append_left _ (List.mem_append_left _ (List.mem_append_left _ (List.mem_append_right _ (List.mem_append_left _ (List.mem_of_getElem? (i := 8) rfl)))))))) (am_cons (List.mem_cons_of_mem _ (List.mem_append_left _ (List.mem_append_left _ (List.mem_append_left _ (List.mem_append_left _ (List.mem_append_right _ (List.mem_append_left _ (List.mem_of_getElem? (i := 9) rfl)))))))) (am_cons (List.mem_cons_of_mem _ (List.mem_append_left _ (List.mem_append_left _ (List.mem_append_left _ (List.mem_append_left _ (List.mem_append_right _ (List.mem_append_left _ (List.mem_of_getElem? (i := 10) rfl)))))))) (am_cons (List.mem_cons_of_mem _ (List.mem_append_left _ (List.mem_append_left _ (List.mem_append_left _ (List.mem_append_left _ (List.mem_append_right _ (List.mem_append_left _ (List.mem_of_getElem? (i := 11) rfl)))))))) (am_cons (List.mem_cons_of_mem _ (List.mem_append_left _ (List.mem_append_left _ (List.mem_append_left _ (List.mem_append_left _ (List.mem_append_right _ (List.mem_append_left _ (List.mem_of_getElem? (i := 12) rfl)))))))) (am_cons (List.mem_cons_of_mem _ (List.mem_append_left _ (List.mem_append_left _ (List.mem_append_left _ (List.mem_append_left _ (List.mem_append_right _ (List.mem_append_left _ (List.mem_of_getElem? (i := 13) rfl)))))))) (am_cons (List.mem_cons_of_mem _ (List.mem_append_left _ (List.mem_append_left _ (List.mem_append_left _ (List.mem_append_left _ (List.mem_append_right _ (List.mem_append_left _ (List.mem_of_getElem? (i := 14) rfl)))))))) (am_cons (List.mem_cons_of_mem _ (List.mem_append_left _ (List.mem_append_left _ (List.mem_append_left _ (List.mem_append_left _ (List.mem_append_right _ (List.mem_append_left _ (List.mem_of_getElem? (i := 15) rfl)))))))) (am_cons (List.mem_cons_of_mem _ (List.mem_append_left _ (List.mem_append_left _ (List.mem_append_left _ (List.mem_append_left _ (List.mem_append_right _ (List.mem_append_left _ (List.mem_of_getElem? (i := 16) rfl)))))))) (am_cons (List.mem_cons_of_mem _ (List.mem_append_left _ (List.mem_append_left _ (List.mem_append_left _ (List.mem_append_left _ (List.mem_append_right _ (List.mem_append_left _ (List.mem_of_getElem? (i := 17) rfl)))))))) (am_cons (List.mem_cons_of_mem _ (List.mem_append_left _ (List.mem_append_left _ (List.mem_append_left _ (List.mem_append_left _ (List.mem_append_right _ (List.mem_append_left _ (List.mem_of_getElem? (i := 18) rfl)))))))) (am_cons (List.mem_cons_of_mem _ (List.mem_append_left _ (List.mem_append_left _ (List.mem_append_left _ (List.mem_append_left _ (List.mem_append_right _ (List.mem_append_left _ (List.mem_of_getElem? (i := 19) rfl)))))))) (am_cons (List.mem_cons_of_mem _ (List.mem_append_left _ (List.mem_append_left _ (List.mem_append_left _ (List.mem_append_left _ (List.mem_append_right _ (List.mem_append_left _ (List.mem_of_getElem? (i := 20) rfl)))))))) (am_cons (List.mem_cons_of_mem _ (List.mem_append_left _ (List.mem_append_left _ (List.mem_append_left _ (List.mem_append_left _ (List.mem_append_right _ (List.mem_append_left _ (List.mem_of_getElem? (i := 21) rfl)))))))) (am_cons (List.mem_cons_of_mem _ (List.mem_append_left _ (List.mem_append_left _ (List.mem_append_left _ (List.mem_append_left _ (List.mem_append_right _ (List.mem_append_left _ (List.mem_of_getElem? (i := 22) rfl)))))))) (am_cons (List.mem_cons_of_mem _ (List.mem_append_left _ (List.mem_append_left _ (List.mem_append_left _ (List.mem_append_left _ (List.mem_append_right _ (List.mem_append_left _ (List.mem_of_getElem? (i := 23) rfl)))))))) (am_cons (List.mem_cons_of_mem _ (List.mem_append_left _ (List.mem_append_left _ (List.mem_append_left _ (List.mem_append_left _ (List.mem_append_right _ (List.mem_append_right _ (List.mem_of_getElem? (i := 0) rfl)))))))) (am_cons (List.mem_cons_of_mem _ (List.mem_append_left _ (List.mem_append_left _ (List.mem_append_left _ (List.mem_append_left _ (List.mem_append_right _ (List.mem_append_right _ (List.mem_of_getElem? (i := 1) rfl)))))))) (am_cons (List.mem_cons_of_mem _ (List.mem_append_left _ (List.mem_append_left _ (List.mem_append_left _ (List.mem_append_left _ (List.mem_append_right _ (List.mem_append_right _ (List.mem_of_getElem? (i := 2) rfl)))))))) (am_cons (List.mem_cons_of_mem _ (List.mem_append_left _ (List.mem_append_left _ (List.mem_append_left _ (List.mem_append_left _ (List.mem_append_right _ (List.mem_append_right _ (List.mem_of_getElem? (i := 3) rfl)))))))) (am_cons (List.mem_cons_of_mem _ (List.mem_append_left _ (List.mem_append_left _ (List.mem_append_left _ (List.mem_append_left _ (List.mem_append_right _ (List.mem_append_right _ (List.mem_of_getElem? (i := 4) rfl)))))))) (am_cons (List.mem_cons_of_mem _ (List.mem_append_left _ (List.mem_append_left _ (List.mem_append_left _ (List.mem_append_left _ (List.mem_append_right _ (List.mem_append_right _ (List.mem_of_getElem? (i := 5) rfl)))))))) am_nil)))))))))))))))))))))))) (am_cons (List.mem_cons_of_mem _ (List.mem_append_left _ (List.mem_append_left _ (List.mem_append_left _ (List.mem_append_left _ (List.mem_append_right _ (List.mem_append_right _ (List.mem_of_getElem? (i := 6) rfl)))))))) (am_cons (List.mem_cons_of_mem _ (List.mem_append_left _ (List.mem_append_left _ (List.mem_append_left _ (List.mem_append_left _ (List.mem_append_right _ (List.mem_append_right _ (List.mem_of_getElem? (i := 7) rfl)))))))) (am_cons (List.mem_cons_of_mem _ (List.mem_append_left _ (List.mem_append_left _ (List.mem_append_left _ (List.mem_append_left _ (List.mem_append_right _ (List.mem_append_right _ (List.mem_of_getElem? (i := 8) rfl)))))))) (am_cons (List.mem_cons_of_mem _ (List.mem_append_left _ (List.mem_append_left _ (List.mem_append_left _ (List.mem_append_left _ (List.mem_append_right _ (List.mem_append_right _ (List.mem_of_getElem? (i := 9) rfl)))))))) (am_cons (List.mem_cons_of_mem _ (List.mem_append_left _ (List.mem_append_left _ (List.mem_append_left _ (List.mem_append_left _ (List.mem_append_right _ (List.mem_append_right _ (List.mem_of_getElem? (i := 10) rfl)))))))) (am_cons (List.mem_cons_of_mem _ (List.mem_append_left _ (List.mem_append_left _ (List.mem_append_left _ (List.mem_append_left _ (List.mem_append_right _ (List.mem_append_right _ (List.mem_of_getElem? (i := 11) rfl)))))))) (am_cons (List.mem_cons_of_mem _ (List.mem_append_left _ (List.mem_append_left _ (List.mem_append_left _ (List.mem_append_left _ (List.mem_append_right _ (List.mem_append_right _ (List.mem_of_getElem? (i := 12) rfl)))))))) (am_cons (List.mem_cons_of_mem _ (List.mem_append_left _ (List.mem_append_left _ (List.mem_append_left _ (List.mem_append_left _ (List.mem_append_right _ (List.mem_append_right _ (List.mem_of_getElem? (i := 13) rfl)))))))) (am_cons (List.mem_cons_of_mem _ (List.mem_append_left _ (List.mem_append_left _ (List.mem_append_left _ (List.mem_append_left _ (List.mem_append_right _ (List.mem_append_right _ (List.mem_of_getElem? (i := 14) rfl)))))))) (am_cons (List.mem_cons_of_mem _ (List.mem_append_left _ (List.mem_append_left _ (List.mem_append_left _ (List.mem_append_left _ (List.mem_append_right _ (List.mem_append_right _ (List.mem_of_getElem? (i := 15) rfl)))))))) am_nil)))))))))))) (fun _ h => List.mem_cons_of_mem _ (List.mem_append_left _ (List.mem_append_left _ (List.mem_append_right _ (h)))))) (fun _ h => List.mem_cons_of_mem _ (List.mem_append_left _ (List.mem_append_right _ (h)))))) (by decide +kernel)
set_option maxRecDepth 20000 in
theorem gX8_ring_X3_addRing : GoodIn wsX8_ring (wsV RX8 75 RX3 yX3_addRing wsX3_addRing) := goodIn_app (goodIn_sub (am_cons (List.mem_cons_of_mem _ (List.mem_append_left _ (List.mem_append_left _ (List.mem_append_left _ (List.mem_append_left _ (List.mem_append_left _ (List.mem_of_getElem? (i := 2) rfl))))))) (am_cons (List.mem_cons_of_mem _ (List.mem_append_left _ (List.mem_append_left _ (List.mem_append_left _ (List.mem_append_left _ (List.mem_append_left _ (List.mem_of_getElem? (i := 3) rfl))))))) (am_cons (List.mem_cons_of_mem _ (List.mem_append_left _ (List.mem_append_left _ (List.mem_append_left _ (List.mem_append_left _ (List.mem_append_left _ (List.mem_of_getElem? (i := 4) rfl))))))) (am_cons (List.mem_cons_of_mem _ (List.mem_append_left _ (List.mem_append_left _ (List.mem_append_left _ (List.mem_append_left _ (List.mem_append_left _ (List.mem_of_getElem? (i := 5) rfl))))))) am_nil)))) (by decide +kernel)) ggX8_ring_X3_addRing
set_option maxRecDepth 20000 in
theorem ggX8_ring_X0_forget : GoodIn wsX8_ring wsX0_forget := goodIn_sub (am_cons (List.mem_cons_of_mem _ (List.mem_append_left _ (List.mem_append_left _ (List.mem_append_left _ (List.mem_append_left _ (List.mem_append_right _ (List.mem_append_right _ (List.mem_of_getElem? (i := 20) rfl)))))))) (am_app (am_cons (List.mem_cons_of_mem _ (List.mem_append_left _ (List.mem_append_left _ (List.mem_append_left _ (List.mem_append_left _ (List.mem_append_right _ (List.mem_append_right _ (List.mem_of_getElem? (i := 21) rfl)))))))) am_nil) (fun _ h => List.mem_cons_of_mem _ (List.mem_append_right _ (h))))) (by decide +kernel)
set_option maxRecDepth 20000 in
theorem gX8_ring_X0_forget : GoodIn wsX8_ring (wsV RX8 72 RX0 yX0_forget wsX0_forget) := goodIn_app (goodIn_sub (am_cons (List.mem_cons_of_mem _ (List.mem_append_left _ (List.mem_append_left _ (List.mem_append_left _ (List.mem_append_left _ (List.mem_append_right _ (List.mem_append_right _ (List.mem_of_getElem? (i := 16) rfl)))))))) (am_cons (List.mem_cons_of_mem _ (List.mem_append_left _ (List.mem_append_left _ (List.mem_append_left _ (List.mem_append_left _ (List.mem_append_right _ (List.mem_append_right _ (List.mem_of_getElem? (i := 17) rfl)))))))) (am_cons (List.mem_cons_of_mem _ (List.mem_append_left _ (List.mem_append_left _ (List.mem_append_left _ (List.mem_append_left _ (List.mem_append_right _ (List.mem_append_right _ (List.mem_of_getElem? (i := 18) rfl)))))))) (am_cons (List.mem_cons_of_mem _ (List.mem_append_left _ (List.mem_append_left _ (List.mem_append_left _ (List.mem_append_left _ (List.mem_append_right _ (List.mem_append_right _ (List.mem_of_getElem? (i := 19) rfl)))))))) am_nil)))) (by decide +kernel)) ggX8_ring_X0_forget
theorem dX8_ring_0 : decode cX8_ring 0 = .ok (.aload_n 0, 1) := by decide +kernel
theorem dX8_ring_1 : decode cX8_ring 1 = .ok (.getfield 12, 3) := by decide +kernel
theorem dX8_ring_4 : decode cX8_ring 4 = .ok (.iload_n 1, 1) := by decide +kernel
theorem dX8_ring_5 : decode cX8_ring 5 = .ok (.iload_n 2, 1) := by decide +kernel
theorem dX8_ring_6 : decode cX8_ring 6 = .ok (.iload_n 3, 1) := by decide +kernel
theorem dX8_ring_7 : decode cX8_ring 7 = .ok (.iload 4, 2) := by decide +kernel
theorem dX8_ring_9 : decode cX8_ring 9 = .ok (.invokevirtual 75, 3) := by decide +kernel
theorem dX8_ring_12 : decode cX8_ring 12 = .ok (.istore 5, 2) := by decide +kernel
theorem dX8_ring_14 : decode cX8_ring 14 = .ok (.iload 5, 2) := by decide +kernel
theorem dX8_ring_16 : decode cX8_ring 16 = .ok (.ifCond .lt 10, 3) := by decide +kernel
theorem dX8_ring_19 : decode cX8_ring 19 = .ok (.aload_n 0, 1) := by decide +kernel
theorem dX8_ring_20 : decode cX8_ring 20 = .ok (.getfield 46, 3) := by decide +kernel
theorem dX8_ring_23 : decode cX8_ring 23 = .ok (.invokevirtual 72, 3) := by decide +kernel
theorem dX8_ring_26 : decode cX8_ring 26 = .ok (.iload 5, 2) := by decide +kernel
theorem dX8_ring_28 : decode cX8_ring 28 = .ok (.ireturn, 1) := by decide +kernel
set_option maxRecDepth 20000 in
theorem ggX8_speed_X3_hasShaft : GoodIn wsX8_speed wsX3_hasShaft := goodIn_sub (am_cons (List.mem_cons_of_mem _ (List.mem_append_left _ (List.mem_append_left _ (List.mem_of_getElem? (i := 6) rfl)))) (am_app (am_cons (List.mem_cons_of_mem _ (List.mem_append_left _ (List.mem_append_left _ (List.mem_of_getElem? (i := 7) rfl)))) (am_cons (List.mem_cons_of_mem _ (List.mem_append_left _ (List.mem_append_left _ (List.mem_of_getElem? (i := 8) rfl)))) (am_cons (List.mem_cons_of_mem _ (List.mem_append_left _ (List.mem_append_left _ (List.mem_of_getElem? (i := 9) rfl)))) (am_cons (List.mem_cons_of_mem _ (List.mem_append_left _ (List.mem_append_left _ (List.mem_of_getElem? (i := 10) rfl)))) am_nil)))) (fun _ h => List.mem_cons_of_mem _ (List.mem_append_right _ (h))))) (by decide +kernel)
set_option maxRecDepth 20000 in
theorem gX8_speed_X3_hasShaft : GoodIn wsX8_speed (wsV RX8 79 RX3 yX3_hasShaft wsX3_hasShaft) := goodIn_app (goodIn_sub (am_cons (List.mem_cons_of_mem _ (List.mem_append_left _ (List.mem_append_left _ (List.mem_of_getElem? (i := 2) rfl)))) (am_cons (List.mem_cons_of_mem _ (List.mem_append_left _ (List.mem_append_left _ (List.mem_of_getElem? (i := 3) rfl)))) (am_cons (List.mem_cons_of_mem _ (List.mem_append_left _ (List.mem_append_left _ (List.mem_of_getElem? (i := 4) rfl)))) (am_cons (List.mem_cons_of_mem _ (List.mem_append_left _ (List.mem_append_left _ (List.mem_of_getElem? (i := 5) rfl)))) am_nil)))) (by decide +kernel)) ggX8_speed_X3_hasShaft
set_option maxRecDepth 20000 in
theorem ggX8_speed_X8_within : GoodIn wsX8_speed wsX8_within := goodIn_sub (am_cons (List.mem_cons_of_mem _ (List.mem_append_left _ (List.mem_append_left _ (List.mem_of_getElem? (i := 10) rfl)))) (am_nil)) (by decide +kernel)
set_option maxRecDepth 20000 in
theorem gX8_speed_X8_within : GoodIn wsX8_speed (va_wsS RX8 83 yX8_within wsX8_within) := goodIn_app (goodIn_sub (am_cons (List.mem_cons_of_mem _ (List.mem_append_left _ (List.mem_append_left _ (List.mem_of_getElem? (i := 11) rfl)))) (am_cons (List.mem_cons_of_mem _ (List.mem_append_left _ (List.mem_append_left _ (List.mem_of_getElem? (i := 8) rfl)))) (am_cons (List.mem_cons_of_mem _ (List.mem_append_left _ (List.mem_append_left _ (List.mem_of_getElem? (i := 9) rfl)))) am_nil))) (by decide +kernel)) ggX8_speed_X8_within
set_option maxRecDepth 20000 in
theorem ggX8_speed_X3_speedAbove : GoodIn wsX8_speed wsX3_speedAbove := goodIn_sub (am_cons (List.mem_cons_of_mem _ (List.mem_append_left _ (List.mem_append_left _ (List.mem_of_getElem? (i := 15) rfl)))) (am_app (am_cons (List.mem_cons_of_mem _ (List.mem_append_left _ (List.mem_append_left _ (List.mem_of_getElem? (i := 16) rfl)))) (am_cons (List.mem_cons_of_mem _ (List.mem_append_left _ (List.mem_append_left _ (List.mem_of_getElem? (i := 17) rfl)))) (am_cons (List.mem_cons_of_mem _ (List.mem_append_left _ (List.mem_append_left _ (List.mem_of_getElem? (i := 18) rfl)))) (am_cons (List.mem_cons_of_mem _ (List.mem_append_left _ (List.mem_append_left _ (List.mem_of_getElem? (i := 3) rfl)))) (am_cons (List.mem_cons_of_mem _ (List.mem_append_left _ (List.mem_append_left _ (List.mem_of_getElem? (i := 4) rfl)))) (am_cons (List.mem_cons_of_mem _ (List.mem_append_left _ (List.mem_append_left _ (List.mem_of_getElem? (i := 5) rfl)))) (am_cons (List.mem_cons_of_mem _ (List.mem_append_left _ (List.mem_append_left _ (List.mem_of_getElem? (i := 6) rfl)))) (am_cons (List.mem_cons_of_mem _ (List.mem_append_left _ (List.mem_append_left _ (List.mem_of_getElem? (i := 7) rfl)))) (am_cons (List.mem_cons_of_mem _ (List.mem_append_left _ (List.mem_append_left _ (List.mem_of_getElem? (i := 8) rfl)))) (am_cons (List.mem_cons_of_mem _ (List.mem_append_left _ (List.mem_append_left _ (List.mem_of_getElem? (i := 9) rfl)))) (am_cons (List.mem_cons_of_mem _ (List.mem_append_left _ (List.mem_append_left _ (List.mem_of_getElem? (i := 10) rfl)))) am_nil))))))))))) (fun _ h => List.mem_cons_of_mem _ (List.mem_append_right _ (h))))) (by decide +kernel)
set_option maxRecDepth 20000 in
theorem gX8_speed_X3_speedAbove : GoodIn wsX8_speed (wsV RX8 89 RX3 yX3_speedAbove wsX3_speedAbove) := goodIn_app (goodIn_sub (am_cons (List.mem_cons_of_mem _ (List.mem_append_left _ (List.mem_append_left _ (List.mem_of_getElem? (i := 12) rfl)))) (am_cons (List.mem_cons_of_mem _ (List.mem_append_left _ (List.mem_append_left _ (List.mem_of_getElem? (i := 13) rfl)))) (am_cons (List.mem_cons_of_mem _ (List.mem_append_left _ (List.mem_append_left _ (List.mem_of_getElem? (i := 14) rfl)))) (am_cons (List.mem_cons_of_mem _ (List.mem_append_left _ (List.mem_append_left _ (List.mem_of_getElem? (i := 5) rfl)))) am_nil)))) (by decide +kernel)) ggX8_speed_X3_speedAbove
set_option maxRecDepth 20000 in
theorem ggX8_speed_X3_speedBelow : GoodIn wsX8_speed wsX3_speedBelow := goodIn_sub (am_cons (List.mem_cons_of_mem _ (List.mem_append_left _ (List.mem_append_left _ (List.mem_of_getElem? (i := 22) rfl)))) (am_app (am_cons (List.mem_cons_of_mem _ (List.mem_append_left _ (List.mem_append_left _ (List.mem_of_getElem? (i := 23) rfl)))) (am_cons (List.mem_cons_of_mem _ (List.mem_append_left _ (List.mem_append_left _ (List.mem_of_getElem? (i := 17) rfl)))) (am_cons (List.mem_cons_of_mem _ (List.mem_append_left _ (List.mem_append_left _ (List.mem_of_getElem? (i := 18) rfl)))) (am_cons (List.mem_cons_of_mem _ (List.mem_append_left _ (List.mem_append_left _ (List.mem_of_getElem? (i := 3) rfl)))) (am_cons (List.mem_cons_of_mem _ (List.mem_append_left _ (List.mem_append_left _ (List.mem_of_getElem? (i := 4) rfl)))) (am_cons (List.mem_cons_of_mem _ (List.mem_append_left _ (List.mem_append_left _ (List.mem_of_getElem? (i := 5) rfl)))) (am_cons (List.mem_cons_of_mem _ (List.mem_append_left _ (List.mem_append_left _ (List.mem_of_getElem? (i := 6) rfl)))) (am_cons (List.mem_cons_of_mem _ (List.mem_append_left _ (List.mem_append_left _ (List.mem_of_getElem? (i := 7) rfl)))) (am_cons (List.mem_cons_of_mem _ (List.mem_append_left _ (List.mem_append_left _ (List.mem_of_getElem? (i := 8) rfl)))) (am_cons (List.mem_cons_of_mem _ (List.mem_append_left _ (List.mem_append_left _ (List.mem_of_getElem? (i := 9) rfl)))) (am_cons (List.mem_cons_of_mem _ (List.mem_append_left _ (List.mem_append_left _ (List.mem_of_getElem? (i := 10) rfl)))) am_nil))))))))))) (fun _ h => List.mem_cons_of_mem _ (List.mem_append_right _ (h))))) (by decide +kernel)
set_option maxRecDepth 20000 in
theorem gX8_speed_X3_speedBelow : GoodIn wsX8_speed (wsV RX8 93 RX3 yX3_speedBelow wsX3_speedBelow) := goodIn_app (goodIn_sub (am_cons (List.mem_cons_of_mem _ (List.mem_append_left _ (List.mem_append_left _ (List.mem_of_getElem? (i := 19) rfl)))) (am_cons (List.mem_cons_of_mem _ (List.mem_append_left _ (List.mem_append_left _ (List.mem_of_getElem? (i := 20) rfl)))) (am_cons (List.mem_cons_of_mem _ (List.mem_append_left _ (List.mem_append_left _ (List.mem_of_getElem? (i := 21) rfl)))) (am_cons (List.mem_cons_of_mem _ (List.mem_append_left _ (List.mem_append_left _ (List.mem_of_getElem? (i := 5) rfl)))) am_nil)))) (by decide +kernel)) ggX8_speed_X3_speedBelow
theorem dX8_speed_0 : decode cX8_speed 0 = .ok (.aload_n 0, 1) := by decide +kernel
theorem dX8_speed_1 : decode cX8_speed 1 = .ok (.getfield 12, 3) := by decide +kernel
theorem dX8_speed_4 : decode cX8_speed 4 = .ok (.iload_n 1, 1) := by decide +kernel
theorem dX8_speed_5 : decode cX8_speed 5 = .ok (.invokevirtual 79, 3) := by decide +kernel
theorem dX8_speed_8 : decode cX8_speed 8 = .ok (.ifCond .eq 12, 3) := by decide +kernel
theorem dX8_speed_11 : decode cX8_speed 11 = .ok (.iload_n 2, 1) := by decide +kernel
theorem dX8_speed_12 : decode cX8_speed 12 = .ok (.iconst 0, 1) := by decide +kernel
theorem dX8_speed_13 : decode cX8_speed 13 = .ok (.iconst 1, 1) := by decide +kernel
theorem dX8_speed_14 : decode cX8_speed 14 = .ok (.invokestatic 83, 3) := by decide +kernel
theorem dX8_speed_17 : decode cX8_speed 17 = .ok (.ifCond .ne 7, 3) := by decide +kernel
theorem dX8_speed_20 : decode cX8_speed 20 = .ok (.ldc2_w 87, 3) := by decide +kernel
theorem dX8_speed_23 : decode cX8_speed 23 = .ok (.lreturn, 1) := by decide +kernel
theorem dX8_speed_24 : decode cX8_speed 24 = .ok (.iload_n 2, 1) := by decide +kernel
theorem dX8_speed_25 : decode cX8_speed 25 = .ok (.ifCond .ne 14, 3) := by decide +kernel
theorem dX8_speed_28 : decode cX8_speed 28 = .ok (.aload_n 0, 1) := by decide +kernel
theorem dX8_speed_29 : decode cX8_speed 29 = .ok (.getfield 12, 3) := by decide +kernel
theorem dX8_speed_32 : decode cX8_speed 32 = .ok (.iload_n 1, 1) := by decide +kernel
theorem dX8_speed_33 : decode cX8_speed 33 = .ok (.invokevirtual 89, 3) := by decide +kernel
theorem dX8_speed_36 : decode cX8_speed 36 = .ok (.goto 11, 3) := by decide +kernel
theorem dX8_speed_39 : decode cX8_speed 39 = .ok (.aload_n 0, 1) := by decide +kernel
theorem dX8_speed_40 : decode cX8_speed 40 = .ok (.getfield 12, 3) := by decide +kernel
theorem dX8_speed_43 : decode cX8_speed 43 = .ok (.iload_n 1, 1) := by decide +kernel
theorem dX8_speed_44 : decode cX8_speed 44 = .ok (.invokevirtual 93, 3) := by decide +kernel
theorem dX8_speed_47 : decode cX8_speed 47 = .ok (.lreturn, 1) := by decide +kernel
set_option maxRecDepth 20000 in
theorem ggX8_parts_X3_countParts : GoodIn wsX8_parts wsX3_countParts := goodIn_sub (am_cons (List.mem_cons_of_mem _ (List.mem_append_left _ (List.mem_append_left _ (List.mem_of_getElem? (i := 5) rfl)))) (am_app (am_cons (List.mem_cons_of_mem _ (List.mem_append_left _ (List.mem_append_left _ (List.mem_of_getElem? (i := 6) rfl)))) (am_cons (List.mem_cons_of_mem _ (List.mem_append_left _ (List.mem_append_left _ (List.mem_of_getElem? (i := 7) rfl)))) am_nil)) (fun _ h => List.mem_cons_of_mem _ (List.mem_append_right _ (h))))) (by decide +kernel)
set_option maxRecDepth 20000 in
theorem gX8_parts_X3_countParts : GoodIn wsX8_parts (wsV RX8 96 RX3 yX3_countParts wsX3_countParts) := goodIn_app (goodIn_sub (am_cons (List.mem_cons_of_mem _ (List.mem_append_left _ (List.mem_append_left _ (List.mem_of_getElem? (i := 1) rfl)))) (am_cons (List.mem_cons_of_mem _ (List.mem_append_left _ (List.mem_append_left _ (List.mem_of_getElem? (i := 2) rfl)))) (am_cons (List.mem_cons_of_mem _ (List.mem_append_left _ (List.mem_append_left _ (List.mem_of_getElem? (i := 3) rfl)))) (am_cons (List.mem_cons_of_mem _ (List.mem_append_left _ (List.mem_append_left _ (List.mem_of_getElem? (i := 4) rfl)))) am_nil)))) (by decide +kernel)) ggX8_parts_X3_countParts
theorem dX8_parts_0 : decode cX8_parts 0 = .ok (.aload_n 0, 1) := by decide +kernel
theorem dX8_parts_1 : decode cX8_parts 1 = .ok (.getfield 12, 3) := by decide +kernel
theorem dX8_parts_4 : decode cX8_parts 4 = .ok (.invokevirtual 96, 3) := by decide +kernel
theorem dX8_parts_7 : decode cX8_parts 7 = .ok (.ireturn, 1) := by decide +kernel
set_option maxRecDepth 20000 in
theorem ggX8_part_X3_find : GoodIn wsX8_part wsX3_find := goodIn_sub (am_cons (List.mem_cons_of_mem _ (List.mem_append_left _ (List.mem_append_left _ (List.mem_append_left _ (List.mem_of_getElem? (i := 5) rfl))))) (am_app (am_cons (List.mem_cons_of_mem _ (List.mem_append_left _ (List.mem_append_left _ (List.mem_append_left _ (List.mem_of_getElem? (i := 6) rfl))))) (am_cons (List.mem_cons_of_mem _ (List.mem_append_left _ (List.mem_append_left _ (List.mem_append_left _ (List.mem_of_getElem? (i := 7) rfl))))) (am_cons (List.mem_cons_of_mem _ (List.mem_append_left _ (List.mem_append_left _ (List.mem_append_left _ (List.mem_of_getElem? (i := 8) rfl))))) (am_cons (List.mem_cons_of_mem _ (List.mem_append_left _ (List.mem_append_left _ (List.mem_append_left _ (List.mem_of_getElem? (i := 9) rfl))))) (am_cons (List.mem_cons_of_mem _ (List.mem_append_left _ (List.mem_append_left _ (List.mem_append_left _ (List.mem_of_getElem? (i := 10) rfl))))) (am_cons (List.mem_cons_of_mem _ (List.mem_append_left _ (List.mem_append_left _ (List.mem_append_left _ (List.mem_of_getElem? (i := 11) rfl))))) (am_cons (List.mem_cons_of_mem _ (List.mem_append_left _ (List.mem_append_left _ (List.mem_append_left _ (List.mem_of_getElem? (i := 12) rfl))))) (am_cons (List.mem_cons_of_mem _ (List.mem_append_left _ (List.mem_append_left _ (List.mem_append_left _ (List.mem_of_getElem? (i := 4) rfl))))) (am_cons (List.mem_cons_of_mem _ (List.mem_append_left _ (List.mem_append_left _ (List.mem_append_left _ (List.mem_of_getElem? (i := 13) rfl))))) (am_cons (List.mem_cons_of_mem _ (List.mem_append_left _ (List.mem_append_left _ (List.mem_append_left _ (List.mem_of_getElem? (i := 14) rfl))))) am_nil)))))))))) (fun _ h => List.mem_cons_of_mem _ (List.mem_append_right _ (h))))) (by decide +kernel)
set_option maxRecDepth 20000 in
theorem gX8_part_X3_find : GoodIn wsX8_part (wsV RX8 100 RX3 yX3_find wsX3_find) := goodIn_app (goodIn_sub (am_cons (List.mem_cons_of_mem _ (List.mem_append_left _ (List.mem_append_left _ (List.mem_append_left _ (List.mem_of_getElem? (i := 1) rfl))))) (am_cons (List.mem_cons_of_mem _ (List.mem_append_left _ (List.mem_append_left _ (List.mem_append_left _ (List.mem_of_getElem? (i := 2) rfl))))) (am_cons (List.mem_cons_of_mem _ (List.mem_append_left _ (List.mem_append_left _ (List.mem_append_left _ (List.mem_of_getElem? (i := 3) rfl))))) (am_cons (List.mem_cons_of_mem _ (List.mem_append_left _ (List.mem_append_left _ (List.mem_append_left _ (List.mem_of_getElem? (i := 4) rfl))))) am_nil)))) (by decide +kernel)) ggX8_part_X3_find
set_option maxRecDepth 20000 in
theorem ggX8_part_X8_within : GoodIn wsX8_part wsX8_within := goodIn_sub (am_cons (List.mem_cons_of_mem _ (List.mem_append_left _ (List.mem_append_left _ (List.mem_append_left _ (List.mem_of_getElem? (i := 18) rfl))))) (am_nil)) (by decide +kernel)
set_option maxRecDepth 20000 in
theorem gX8_part_X8_within : GoodIn wsX8_part (va_wsS RX8 83 yX8_within wsX8_within) := goodIn_app (goodIn_sub (am_cons (List.mem_cons_of_mem _ (List.mem_append_left _ (List.mem_append_left _ (List.mem_append_left _ (List.mem_of_getElem? (i := 15) rfl))))) (am_cons (List.mem_cons_of_mem _ (List.mem_append_left _ (List.mem_append_left _ (List.mem_append_left _ (List.mem_of_getElem? (i := 16) rfl))))) (am_cons (List.mem_cons_of_mem _ (List.mem_append_left _ (List.mem_append_left _ (List.mem_append_left _ (List.mem_of_getElem? (i := 17) rfl))))) am_nil))) (by decide +kernel)) ggX8_part_X8_within
theorem dX8_part_0 : decode cX8_part 0 = .ok (.aload_n 0, 1) := by decide +kernel
theorem dX8_part_1 : decode cX8_part 1 = .ok (.getfield 12, 3) := by decide +kernel
theorem dX8_part_4 : decode cX8_part 4 = .ok (.iload_n 1, 1) := by decide +kernel
theorem dX8_part_5 : decode cX8_part 5 = .ok (.invokevirtual 100, 3) := by decide +kernel
theorem dX8_part_8 : decode cX8_part 8 = .ok (.astore_n 3, 1) := by decide +kernel
theorem dX8_part_9 : decode cX8_part 9 = .ok (.aload_n 3, 1) := by decide +kernel
theorem dX8_part_10 : decode cX8_part 10 = .ok (.ifnull 12, 3) := by decide +kernel
theorem dX8_part_13 : decode cX8_part 13 = .ok (.iload_n 2, 1) := by decide +kernel
theorem dX8_part_14 : decode cX8_part 14 = .ok (.iconst 0, 1) := by decide +kernel
theorem dX8_part_15 : decode cX8_part 15 = .ok (.iconst 2, 1) := by decide +kernel
theorem dX8_part_16 : decode cX8_part 16 = .ok (.invokestatic 83, 3) := by decide +kernel
theorem dX8_part_19 : decode cX8_part 19 = .ok (.ifCond .ne 5, 3) := by decide +kernel
theorem dX8_part_22 : decode cX8_part 22 = .ok (.iconst (-1), 1) := by decide +kernel
theorem dX8_part_23 : decode cX8_part 23 = .ok (.ireturn, 1) := by decide +kernel
theorem dX8_part_24 : decode cX8_part 24 = .ok (.iload_n 2, 1) := by decide +kernel
theorem dX8_part_25 : decode cX8_part 25 = .ok (.ifCond .ne 8, 3) := by decide +kernel
theorem dX8_part_28 : decode cX8_part 28 = .ok (.aload_n 3, 1) := by decide +kernel
theorem dX8_part_29 : decode cX8_part 29 = .ok (.getfield 104, 3) := by decide +kernel
theorem dX8_part_32 : decode cX8_part 32 = .ok (.ireturn, 1) := by decide +kernel
theorem dX8_part_33 : decode cX8_part 33 = .ok (.iload_n 2, 1) := by decide +kernel
theorem dX8_part_34 : decode cX8_part 34 = .ok (.iconst 1, 1) := by decide +kernel
theorem dX8_part_35 : decode cX8_part 35 = .ok (.if_icmp .ne 10, 3) := by decide +kernel
theorem dX8_part_38 : decode cX8_part 38 = .ok (.aload_n 3, 1) := by decide +kernel
theorem dX8_part_39 : decode cX8_part 39 = .ok (.getfield 109, 3) := by decide +kernel
theorem dX8_part_42 : decode cX8_part 42 = .ok (.goto 7, 3) := by decide +kernel
theorem dX8_part_45 : decode cX8_part 45 = .ok (.aload_n 3, 1) := by decide +kernel
theorem dX8_part_46 : decode cX8_part 46 = .ok (.getfield 112, 3) := by decide +kernel
theorem dX8_part_49 : decode cX8_part 49 = .ok (.ireturn, 1) := by decide +kernel
set_option maxRecDepth 20000 in
theorem ggX8_tone_X3_find : GoodIn wsX8_tone wsX3_find := goodIn_sub (am_cons (List.mem_cons_of_mem _ (List.mem_append_left _ (List.mem_append_left _ (List.mem_append_left _ (List.mem_of_getElem? (i := 6) rfl))))) (am_app (am_cons (List.mem_cons_of_mem _ (List.mem_append_left _ (List.mem_append_left _ (List.mem_append_left _ (List.mem_of_getElem? (i := 7) rfl))))) (am_cons (List.mem_cons_of_mem _ (List.mem_append_left _ (List.mem_append_left _ (List.mem_append_left _ (List.mem_of_getElem? (i := 8) rfl))))) (am_cons (List.mem_cons_of_mem _ (List.mem_append_left _ (List.mem_append_left _ (List.mem_append_left _ (List.mem_of_getElem? (i := 9) rfl))))) (am_cons (List.mem_cons_of_mem _ (List.mem_append_left _ (List.mem_append_left _ (List.mem_append_left _ (List.mem_of_getElem? (i := 10) rfl))))) (am_cons (List.mem_cons_of_mem _ (List.mem_append_left _ (List.mem_append_left _ (List.mem_append_left _ (List.mem_of_getElem? (i := 11) rfl))))) (am_cons (List.mem_cons_of_mem _ (List.mem_append_left _ (List.mem_append_left _ (List.mem_append_left _ (List.mem_of_getElem? (i := 12) rfl))))) (am_cons (List.mem_cons_of_mem _ (List.mem_append_left _ (List.mem_append_left _ (List.mem_append_left _ (List.mem_of_getElem? (i := 13) rfl))))) (am_cons (List.mem_cons_of_mem _ (List.mem_append_left _ (List.mem_append_left _ (List.mem_append_left _ (List.mem_of_getElem? (i := 5) rfl))))) (am_cons (List.mem_cons_of_mem _ (List.mem_append_left _ (List.mem_append_left _ (List.mem_append_left _ (List.mem_of_getElem? (i := 14) rfl))))) (am_cons (List.mem_cons_of_mem _ (List.mem_append_left _ (List.mem_append_left _ (List.mem_append_left _ (List.mem_of_getElem? (i := 15) rfl))))) am_nil)))))))))) (fun _ h => List.mem_cons_of_mem _ (List.mem_append_right _ (h))))) (by decide +kernel)
set_option maxRecDepth 20000 in
theorem gX8_tone_X3_find : GoodIn wsX8_tone (wsV RX8 100 RX3 yX3_find wsX3_find) := goodIn_app (goodIn_sub (am_cons (List.mem_cons_of_mem _ (List.mem_append_left _ (List.mem_append_left _ (List.mem_append_left _ (List.mem_of_getElem? (i := 2) rfl))))) (am_cons (List.mem_cons_of_mem _ (List.mem_append_left _ (List.mem_append_left _ (List.mem_append_left _ (List.mem_of_getElem? (i := 3) rfl))))) (am_cons (List.mem_cons_of_mem _ (List.mem_append_left _ (List.mem_append_left _ (List.mem_append_left _ (List.mem_of_getElem? (i := 4) rfl))))) (am_cons (List.mem_cons_of_mem _ (List.mem_append_left _ (List.mem_append_left _ (List.mem_append_left _ (List.mem_of_getElem? (i := 5) rfl))))) am_nil)))) (by decide +kernel)) ggX8_tone_X3_find
set_option maxRecDepth 20000 in
theorem ggX8_tone_X8_within : GoodIn wsX8_tone wsX8_within := goodIn_sub (am_cons (List.mem_cons_of_mem _ (List.mem_append_left _ (List.mem_append_left _ (List.mem_append_left _ (List.mem_of_getElem? (i := 19) rfl))))) (am_nil)) (by decide +kernel)
set_option maxRecDepth 20000 in
theorem gX8_tone_X8_within : GoodIn wsX8_tone (va_wsS RX8 83 yX8_within wsX8_within) := goodIn_app (goodIn_sub (am_cons (List.mem_cons_of_mem _ (List.mem_append_left _ (List.mem_append_left _ (List.mem_append_left _ (List.mem_of_getElem? (i := 16) rfl))))) (am_cons (List.mem_cons_of_mem _ (List.mem_append_left _ (List.mem_append_left _ (List.mem_append_left _ (List.mem_of_getElem? (i := 17) rfl))))) (am_cons (List.mem_cons_of_mem _ (List.mem_append_left _ (List.mem_append_left _ (List.mem_append_left _ (List.mem_of_getElem? (i := 18) rfl))))) am_nil))) (by decide +kernel)) ggX8_tone_X8_within
theorem dX8_tone_0 : decode cX8_tone 0 = .ok (.aload_n 0, 1) := by decide +kernel
theorem dX8_tone_1 : decode cX8_tone 1 = .ok (.getfield 12, 3) := by decide +kernel
theorem dX8_tone_4 : decode cX8_tone 4 = .ok (.iload_n 1, 1) := by decide +kernel
theorem dX8_tone_5 : decode cX8_tone 5 = .ok (.invokevirtual 100, 3) := by decide +kernel
theorem dX8_tone_8 : decode cX8_tone 8 = .ok (.astore 4, 2) := by decide +kernel
theorem dX8_tone_10 : decode cX8_tone 10 = .ok (.aload 4, 2) := by decide +kernel
theorem dX8_tone_12 : decode cX8_tone 12 = .ok (.ifnull 27, 3) := by decide +kernel
theorem dX8_tone_15 : decode cX8_tone 15 = .ok (.iload_n 2, 1) := by decide +kernel
theorem dX8_tone_16 : decode cX8_tone 16 = .ok (.iconst 0, 1) := by decide +kernel
theorem dX8_tone_17 : decode cX8_tone 17 = .ok (.aload 4, 2) := by decide +kernel
theorem dX8_tone_19 : decode cX8_tone 19 = .ok (.getfield 112, 3) := by decide +kernel
theorem dX8_tone_22 : decode cX8_tone 22 = .ok (.iconst 1, 1) := by decide +kernel
theorem dX8_tone_23 : decode cX8_tone 23 = .ok (.isub, 1) := by decide +kernel
theorem dX8_tone_24 : decode cX8_tone 24 = .ok (.invokestatic 83, 3) := by decide +kernel
theorem dX8_tone_27 : decode cX8_tone 27 = .ok (.ifCond .eq 12, 3) := by decide +kernel
theorem dX8_tone_30 : decode cX8_tone 30 = .ok (.iload_n 3, 1) := by decide +kernel
theorem dX8_tone_31 : decode cX8_tone 31 = .ok (.iconst 0, 1) := by decide +kernel
theorem dX8_tone_32 : decode cX8_tone 32 = .ok (.iconst 1, 1) := by decide +kernel
theorem dX8_tone_33 : decode cX8_tone 33 = .ok (.invokestatic 83, 3) := by decide +kernel
theorem dX8_tone_36 : decode cX8_tone 36 = .ok (.ifCond .ne 7, 3) := by decide +kernel
theorem dX8_tone_39 : decode cX8_tone 39 = .ok (.ldc2_w 87, 3) := by decide +kernel
theorem dX8_tone_42 : decode cX8_tone 42 = .ok (.lreturn, 1) := by decide +kernel
theorem dX8_tone_43 : decode cX8_tone 43 = .ok (.iload_n 3, 1) := by decide +kernel
theorem dX8_tone_44 : decode cX8_tone 44 = .ok (.ifCond .ne 13, 3) := by decide +kernel
theorem dX8_tone_47 : decode cX8_tone 47 = .ok (.aload 4, 2) := by decide +kernel
theorem dX8_tone_49 : decode cX8_tone 49 = .ok (.getfield 115, 3) := by decide +kernel
theorem dX8_tone_52 : decode cX8_tone 52 = .ok (.iload_n 2, 1) := by decide +kernel
theorem dX8_tone_53 : decode cX8_tone 53 = .ok (.laload, 1) := by decide +kernel
theorem dX8_tone_54 : decode cX8_tone 54 = .ok (.goto 10, 3) := by decide +kernel
theorem dX8_tone_57 : decode cX8_tone 57 = .ok (.aload 4, 2) := by decide +kernel
theorem dX8_tone_59 : decode cX8_tone 59 = .ok (.getfield 119, 3) := by decide +kernel
theorem dX8_tone_62 : decode cX8_tone 62 = .ok (.iload_n 2, 1) := by decide +kernel
theorem dX8_tone_63 : decode cX8_tone 63 = .ok (.laload, 1) := by decide +kernel
theorem dX8_tone_64 : decode cX8_tone 64 = .ok (.lreturn, 1) := by decide +kernel
set_option maxRecDepth 20000 in
theorem ggX8_mark_X4_add : GoodIn wsX8_mark wsX4_add := goodIn_sub (am_cons (List.mem_cons_of_mem _ (List.mem_append_left _ (List.mem_append_left _ (List.mem_append_left _ (List.mem_of_getElem? (i := 5) rfl))))) (am_app (am_cons (List.mem_cons_of_mem _ (List.mem_append_left _ (List.mem_append_left _ (List.mem_append_left _ (List.mem_of_getElem? (i := 6) rfl))))) (am_cons (List.mem_cons_of_mem _ (List.mem_append_left _ (List.mem_append_left _ (List.mem_append_left _ (List.mem_of_getElem? (i := 7) rfl))))) (am_cons (List.mem_cons_of_mem _ (List.mem_append_left _ (List.mem_append_left _ (List.mem_append_left _ (List.mem_of_getElem? (i := 8) rfl))))) (am_cons (List.mem_cons_of_mem _ (List.mem_append_left _ (List.mem_append_left _ (List.mem_append_left _ (List.mem_of_getElem? (i := 9) rfl))))) (am_cons (List.mem_cons_of_mem _ (List.mem_append_left _ (List.mem_append_left _ (List.mem_append_left _ (List.mem_of_getElem? (i := 10) rfl))))) (am_cons (List.mem_cons_of_mem _ (List.mem_append_left _ (List.mem_append_left _ (List.mem_append_left _ (List.mem_of_getElem? (i := 11) rfl))))) (am_cons (List.mem_cons_of_mem _ (List.mem_append_left _ (List.mem_append_left _ (List.mem_append_left _ (List.mem_of_getElem? (i := 12) rfl))))) (am_cons (List.mem_cons_of_mem _ (List.mem_append_left _ (List.mem_append_left _ (List.mem_append_left _ (List.mem_of_getElem? (i := 13) rfl))))) (am_cons (List.mem_cons_of_mem _ (List.mem_append_left _ (List.mem_append_left _ (List.mem_append_left _ (List.mem_of_getElem? (i := 14) rfl))))) (am_cons (List.mem_cons_of_mem _ (List.mem_append_left _ (List.mem_append_left _ (List.mem_append_left _ (List.mem_of_getElem? (i := 4) rfl))))) (am_cons (List.mem_cons_of_mem _ (List.mem_append_left _ (List.mem_append_left _ (List.mem_append_left _ (List.mem_of_getElem? (i := 15) rfl))))) (am_cons (List.mem_cons_of_mem _ (List.mem_append_left _ (List.mem_append_left _ (List.mem_append_left _ (List.mem_of_getElem? (i := 16) rfl))))) (am_cons (List.mem_cons_of_mem _ (List.mem_append_left _ (List.mem_append_left _ (List.mem_append_left _ (List.mem_of_getElem? (i := 17) rfl))))) (am_cons (List.mem_cons_of_mem _ (List.mem_append_left _ (List.mem_append_left _ (List.mem_append_left _ (List.mem_of_getElem? (i := 18) rfl))))) (am_cons (List.mem_cons_of_mem _ (List.mem_append_left _ (List.mem_append_left _ (List.mem_append_left _ (List.mem_of_getElem? (i := 19) rfl))))) (am_cons (List.mem_cons_of_mem _ (List.mem_append_left _ (List.mem_append_left _ (List.mem_append_left _ (List.mem_of_getElem? (i := 20) rfl))))) (am_cons (List.mem_cons_of_mem _ (List.mem_append_left _ (List.mem_append_left _ (List.mem_append_left _ (List.mem_of_getElem? (i := 21) rfl))))) (am_cons (List.mem_cons_of_mem _ (List.mem_append_left _ (List.mem_append_left _ (List.mem_append_left _ (List.mem_of_getElem? (i := 22) rfl))))) (am_cons (List.mem_cons_of_mem _ (List.mem_append_left _ (List.mem_append_left _ (List.mem_append_left _ (List.mem_of_getElem? (i := 23) rfl))))) (am_cons (List.mem_cons_of_mem _ (List.mem_append_left _ (List.mem_append_left _ (List.mem_append_right _ (List.mem_of_getElem? (i := 0) rfl))))) (am_cons (List.mem_cons_of_mem _ (List.mem_append_left _ (List.mem_append_left _ (List.mem_append_right _ (List.mem_of_getElem? (i := 1) rfl))))) am_nil))))))))))))))))))))) (fun _ h => List.mem_cons_of_mem _ (List.mem_append_right _ (h))))) (by decide +kernel)
set_option maxRecDepth 20000 in
theorem gX8_mark_X4_add : GoodIn wsX8_mark (wsV RX8 122 RX4 yX4_add wsX4_add) := goodIn_app (goodIn_sub (am_cons (List.mem_cons_of_mem _ (List.mem_append_left _ (List.mem_append_left _ (List.mem_append_left _ (List.mem_of_getElem? (i := 1) rfl))))) (am_cons (List.mem_cons_of_mem _ (List.mem_append_left _ (List.mem_append_left _ (List.mem_append_left _ (List.mem_of_getElem? (i := 2) rfl))))) (am_cons (List.mem_cons_of_mem _ (List.mem_append_left _ (List.mem_append_left _ (List.mem_append_left _ (List.mem_of_getElem? (i := 3) rfl))))) (am_cons (List.mem_cons_of_mem _ (List.mem_append_left _ (List.mem_append_left _ (List.mem_append_left _ (List.mem_of_getElem? (i := 4) rfl))))) am_nil)))) (by decide +kernel)) ggX8_mark_X4_add
theorem dX8_mark_0 : decode cX8_mark 0 = .ok (.aload_n 0, 1) := by decide +kernel
theorem dX8_mark_1 : decode cX8_mark 1 = .ok (.getfield 19, 3) := by decide +kernel
theorem dX8_mark_4 : decode cX8_mark 4 = .ok (.iload_n 1, 1) := by decide +kernel
theorem dX8_mark_5 : decode cX8_mark 5 = .ok (.invokevirtual 122, 3) := by decide +kernel
theorem dX8_mark_8 : decode cX8_mark 8 = .ok (.ireturn, 1) := by decide +kernel
set_option maxRecDepth 20000 in
theorem ggX8_unmark_X4_clear : GoodIn wsX8_unmark wsX4_clear := goodIn_sub (am_cons (List.mem_cons_of_mem _ (List.mem_append_left _ (List.mem_append_left _ (List.mem_of_getElem? (i := 5) rfl)))) (am_app (am_cons (List.mem_cons_of_mem _ (List.mem_append_left _ (List.mem_append_left _ (List.mem_of_getElem? (i := 6) rfl)))) (am_cons (List.mem_cons_of_mem _ (List.mem_append_left _ (List.mem_append_left _ (List.mem_of_getElem? (i := 7) rfl)))) am_nil)) (fun _ h => List.mem_cons_of_mem _ (List.mem_append_right _ (h))))) (by decide +kernel)
set_option maxRecDepth 20000 in
theorem gX8_unmark_X4_clear : GoodIn wsX8_unmark (wsV RX8 126 RX4 yX4_clear wsX4_clear) := goodIn_app (goodIn_sub (am_cons (List.mem_cons_of_mem _ (List.mem_append_left _ (List.mem_append_left _ (List.mem_of_getElem? (i := 1) rfl)))) (am_cons (List.mem_cons_of_mem _ (List.mem_append_left _ (List.mem_append_left _ (List.mem_of_getElem? (i := 2) rfl)))) (am_cons (List.mem_cons_of_mem _ (List.mem_append_left _ (List.mem_append_left _ (List.mem_of_getElem? (i := 3) rfl)))) (am_cons (List.mem_cons_of_mem _ (List.mem_append_left _ (List.mem_append_left _ (List.mem_of_getElem? (i := 4) rfl)))) am_nil)))) (by decide +kernel)) ggX8_unmark_X4_clear
theorem dX8_unmark_0 : decode cX8_unmark 0 = .ok (.aload_n 0, 1) := by decide +kernel
theorem dX8_unmark_1 : decode cX8_unmark 1 = .ok (.getfield 19, 3) := by decide +kernel
theorem dX8_unmark_4 : decode cX8_unmark 4 = .ok (.invokevirtual 126, 3) := by decide +kernel
theorem dX8_unmark_7 : decode cX8_unmark 7 = .ok (.ireturn, 1) := by decide +kernel
theorem dX8_turns_0 : decode cX8_turns 0 = .ok (.aload_n 0, 1) := by decide +kernel
theorem dX8_turns_1 : decode cX8_turns 1 = .ok (.getfield 19, 3) := by decide +kernel
theorem dX8_turns_4 : decode cX8_turns 4 = .ok (.getfield 129, 3) := by decide +kernel
theorem dX8_turns_7 : decode cX8_turns 7 = .ok (.ireturn, 1) := by decide +kernel
set_option maxRecDepth 20000 in
theorem ggX8_turn_X8_within : GoodIn wsX8_turn wsX8_within := goodIn_sub (am_cons (List.mem_cons_of_mem _ (List.mem_append_left _ (List.mem_append_left _ (List.mem_of_getElem? (i := 4) rfl)))) (am_nil)) (by decide +kernel)
set_option maxRecDepth 20000 in
theorem gX8_turn_X8_within : GoodIn wsX8_turn (va_wsS RX8 83 yX8_within wsX8_within) := goodIn_app (goodIn_sub (am_cons (List.mem_cons_of_mem _ (List.mem_append_left _ (List.mem_append_left _ (List.mem_of_getElem? (i := 1) rfl)))) (am_cons (List.mem_cons_of_mem _ (List.mem_append_left _ (List.mem_append_left _ (List.mem_of_getElem? (i := 2) rfl)))) (am_cons (List.mem_cons_of_mem _ (List.mem_append_left _ (List.mem_append_left _ (List.mem_of_getElem? (i := 3) rfl)))) am_nil))) (by decide +kernel)) ggX8_turn_X8_within
theorem dX8_turn_0 : decode cX8_turn 0 = .ok (.iload_n 1, 1) := by decide +kernel
theorem dX8_turn_1 : decode cX8_turn 1 = .ok (.iconst 0, 1) := by decide +kernel
theorem dX8_turn_2 : decode cX8_turn 2 = .ok (.aload_n 0, 1) := by decide +kernel
theorem dX8_turn_3 : decode cX8_turn 3 = .ok (.getfield 19, 3) := by decide +kernel
theorem dX8_turn_6 : decode cX8_turn 6 = .ok (.getfield 129, 3) := by decide +kernel
theorem dX8_turn_9 : decode cX8_turn 9 = .ok (.iconst 1, 1) := by decide +kernel
theorem dX8_turn_10 : decode cX8_turn 10 = .ok (.isub, 1) := by decide +kernel
theorem dX8_turn_11 : decode cX8_turn 11 = .ok (.invokestatic 83, 3) := by decide +kernel
theorem dX8_turn_14 : decode cX8_turn 14 = .ok (.ifCond .eq 15, 3) := by decide +kernel
theorem dX8_turn_17 : decode cX8_turn 17 = .ok (.aload_n 0, 1) := by decide +kernel
theorem dX8_turn_18 : decode cX8_turn 18 = .ok (.getfield 19, 3) := by decide +kernel
theorem dX8_turn_21 : decode cX8_turn 21 = .ok (.getfield 132, 3) := by decide +kernel
theorem dX8_turn_24 : decode cX8_turn 24 = .ok (.iload_n 1, 1) := by decide +kernel
theorem dX8_turn_25 : decode cX8_turn 25 = .ok (.iaload, 1) := by decide +kernel
theorem dX8_turn_26 : decode cX8_turn 26 = .ok (.goto 4, 3) := by decide +kernel
theorem dX8_turn_29 : decode cX8_turn 29 = .ok (.iconst (-1), 1) := by decide +kernel
theorem dX8_turn_30 : decode cX8_turn 30 = .ok (.ireturn, 1) := by decide +kernel
set_option maxRecDepth 20000 in
theorem ggX8_sheet_X8_within : GoodIn wsX8_sheet wsX8_within := goodIn_sub (am_cons (List.mem_cons_of_mem _ (List.mem_append_left _ (List.mem_append_left _ (List.mem_of_getElem? (i := 4) rfl)))) (am_nil)) (by decide +kernel)
set_option maxRecDepth 20000 in
theorem gX8_sheet_X8_within : GoodIn wsX8_sheet (va_wsS RX8 83 yX8_within wsX8_within) := goodIn_app (goodIn_sub (am_cons (List.mem_cons_of_mem _ (List.mem_append_left _ (List.mem_append_left _ (List.mem_of_getElem? (i := 1) rfl)))) (am_cons (List.mem_cons_of_mem _ (List.mem_append_left _ (List.mem_append_left _ (List.mem_of_getElem? (i := 2) rfl)))) (am_cons (List.mem_cons_of_mem _ (List.mem_append_left _ (List.mem_append_left _ (List.mem_of_getElem? (i := 3) rfl)))) am_nil))) (by decide +kernel)) ggX8_sheet_X8_within
set_option maxRecDepth 20000 in
theorem ggX8_sheet_X7_begin : GoodIn wsX8_sheet wsX7_begin := goodIn_sub (am_cons (List.mem_cons_of_mem _ (List.mem_append_left _ (List.mem_append_left _ (List.mem_of_getElem? (i := 9) rfl)))) (am_app (am_cons (List.mem_cons_of_mem _ (List.mem_append_left _ (List.mem_append_left _ (List.mem_of_getElem? (i := 10) rfl)))) (am_cons (List.mem_cons_of_mem _ (List.mem_append_left _ (List.mem_append_left _ (List.mem_of_getElem? (i := 11) rfl)))) (am_cons (List.mem_cons_of_mem _ (List.mem_append_left _ (List.mem_append_left _ (List.mem_of_getElem? (i := 12) rfl)))) (am_cons (List.mem_cons_of_mem _ (List.mem_append_left _ (List.mem_append_left _ (List.mem_of_getElem? (i := 13) rfl)))) (am_cons (List.mem_cons_of_mem _ (List.mem_append_left _ (List.mem_append_left _ (List.mem_of_getElem? (i := 14) rfl)))) am_nil))))) (fun _ h => List.mem_cons_of_mem _ (List.mem_append_right _ (h))))) (by decide +kernel)
set_option maxRecDepth 20000 in
theorem gX8_sheet_X7_begin : GoodIn wsX8_sheet (wsV RX8 136 RX7 yX7_begin wsX7_begin) := goodIn_app (goodIn_sub (am_cons (List.mem_cons_of_mem _ (List.mem_append_left _ (List.mem_append_left _ (List.mem_of_getElem? (i := 5) rfl)))) (am_cons (List.mem_cons_of_mem _ (List.mem_append_left _ (List.mem_append_left _ (List.mem_of_getElem? (i := 6) rfl)))) (am_cons (List.mem_cons_of_mem _ (List.mem_append_left _ (List.mem_append_left _ (List.mem_of_getElem? (i := 7) rfl)))) (am_cons (List.mem_cons_of_mem _ (List.mem_append_left _ (List.mem_append_left _ (List.mem_of_getElem? (i := 8) rfl)))) am_nil)))) (by decide +kernel)) ggX8_sheet_X7_begin
theorem dX8_sheet_0 : decode cX8_sheet 0 = .ok (.iload_n 1, 1) := by decide +kernel
theorem dX8_sheet_1 : decode cX8_sheet 1 = .ok (.iconst 0, 1) := by decide +kernel
theorem dX8_sheet_2 : decode cX8_sheet 2 = .ok (.iconst 3, 1) := by decide +kernel
theorem dX8_sheet_3 : decode cX8_sheet 3 = .ok (.invokestatic 83, 3) := by decide +kernel
theorem dX8_sheet_6 : decode cX8_sheet 6 = .ok (.ifCond .eq 31, 3) := by decide +kernel
theorem dX8_sheet_9 : decode cX8_sheet 9 = .ok (.iload_n 2, 1) := by decide +kernel
theorem dX8_sheet_10 : decode cX8_sheet 10 = .ok (.iconst 0, 1) := by decide +kernel
theorem dX8_sheet_11 : decode cX8_sheet 11 = .ok (.iconst 2, 1) := by decide +kernel
theorem dX8_sheet_12 : decode cX8_sheet 12 = .ok (.invokestatic 83, 3) := by decide +kernel
theorem dX8_sheet_15 : decode cX8_sheet 15 = .ok (.ifCond .eq 22, 3) := by decide +kernel
theorem dX8_sheet_18 : decode cX8_sheet 18 = .ok (.iload_n 3, 1) := by decide +kernel
theorem dX8_sheet_19 : decode cX8_sheet 19 = .ok (.sipush 200, 3) := by decide +kernel
theorem dX8_sheet_22 : decode cX8_sheet 22 = .ok (.if_icmp .gt 15, 3) := by decide +kernel
theorem dX8_sheet_25 : decode cX8_sheet 25 = .ok (.iload 4, 2) := by decide +kernel
theorem dX8_sheet_27 : decode cX8_sheet 27 = .ok (.iconst 1, 1) := by decide +kernel
theorem dX8_sheet_28 : decode cX8_sheet 28 = .ok (.sipush 1000, 3) := by decide +kernel
theorem dX8_sheet_31 : decode cX8_sheet 31 = .ok (.invokestatic 83, 3) := by decide +kernel
theorem dX8_sheet_34 : decode cX8_sheet 34 = .ok (.ifCond .ne 5, 3) := by decide +kernel
theorem dX8_sheet_37 : decode cX8_sheet 37 = .ok (.iconst (-1), 1) := by decide +kernel
theorem dX8_sheet_38 : decode cX8_sheet 38 = .ok (.ireturn, 1) := by decide +kernel
theorem dX8_sheet_39 : decode cX8_sheet 39 = .ok (.iload_n 3, 1) := by decide +kernel
theorem dX8_sheet_40 : decode cX8_sheet 40 = .ok (.ifCond .ge 6, 3) := by decide +kernel
theorem dX8_sheet_43 : decode cX8_sheet 43 = .ok (.bipush (-14), 2) := by decide +kernel
theorem dX8_sheet_45 : decode cX8_sheet 45 = .ok (.ireturn, 1) := by decide +kernel
theorem dX8_sheet_46 : decode cX8_sheet 46 = .ok (.aload_n 0, 1) := by decide +kernel
theorem dX8_sheet_47 : decode cX8_sheet 47 = .ok (.getfield 25, 3) := by decide +kernel
theorem dX8_sheet_50 : decode cX8_sheet 50 = .ok (.iload_n 1, 1) := by decide +kernel
theorem dX8_sheet_51 : decode cX8_sheet 51 = .ok (.aaload, 1) := by decide +kernel
theorem dX8_sheet_52 : decode cX8_sheet 52 = .ok (.iload_n 2, 1) := by decide +kernel
theorem dX8_sheet_53 : decode cX8_sheet 53 = .ok (.iload_n 3, 1) := by decide +kernel
theorem dX8_sheet_54 : decode cX8_sheet 54 = .ok (.iload 4, 2) := by decide +kernel
theorem dX8_sheet_56 : decode cX8_sheet 56 = .ok (.invokevirtual 136, 3) := by decide +kernel
theorem dX8_sheet_59 : decode cX8_sheet 59 = .ok (.iload_n 3, 1) := by decide +kernel
theorem dX8_sheet_60 : decode cX8_sheet 60 = .ok (.ireturn, 1) := by decide +kernel
set_option maxRecDepth 20000 in
theorem ggX8_drop_X8_within : GoodIn wsX8_drop wsX8_within := goodIn_sub (am_cons (List.mem_cons_of_mem _ (List.mem_append_left _ (List.mem_append_left _ (List.mem_of_getElem? (i := 4) rfl)))) (am_nil)) (by decide +kernel)
set_option maxRecDepth 20000 in
theorem gX8_drop_X8_within : GoodIn wsX8_drop (va_wsS RX8 83 yX8_within wsX8_within) := goodIn_app (goodIn_sub (am_cons (List.mem_cons_of_mem _ (List.mem_append_left _ (List.mem_append_left _ (List.mem_of_getElem? (i := 1) rfl)))) (am_cons (List.mem_cons_of_mem _ (List.mem_append_left _ (List.mem_append_left _ (List.mem_of_getElem? (i := 2) rfl)))) (am_cons (List.mem_cons_of_mem _ (List.mem_append_left _ (List.mem_append_left _ (List.mem_of_getElem? (i := 3) rfl)))) am_nil))) (by decide +kernel)) ggX8_drop_X8_within
theorem dX8_drop_0 : decode cX8_drop 0 = .ok (.iload_n 1, 1) := by decide +kernel
theorem dX8_drop_1 : decode cX8_drop 1 = .ok (.iconst 0, 1) := by decide +kernel
theorem dX8_drop_2 : decode cX8_drop 2 = .ok (.iconst 3, 1) := by decide +kernel
theorem dX8_drop_3 : decode cX8_drop 3 = .ok (.invokestatic 83, 3) := by decide +kernel
theorem dX8_drop_6 : decode cX8_drop 6 = .ok (.ifCond .ne 5, 3) := by decide +kernel
theorem dX8_drop_9 : decode cX8_drop 9 = .ok (.iconst (-1), 1) := by decide +kernel
theorem dX8_drop_10 : decode cX8_drop 10 = .ok (.ireturn, 1) := by decide +kernel
theorem dX8_drop_11 : decode cX8_drop 11 = .ok (.aload_n 0, 1) := by decide +kernel
theorem dX8_drop_12 : decode cX8_drop 12 = .ok (.getfield 25, 3) := by decide +kernel
theorem dX8_drop_15 : decode cX8_drop 15 = .ok (.iload_n 1, 1) := by decide +kernel
theorem dX8_drop_16 : decode cX8_drop 16 = .ok (.aaload, 1) := by decide +kernel
theorem dX8_drop_17 : decode cX8_drop 17 = .ok (.getfield 140, 3) := by decide +kernel
theorem dX8_drop_20 : decode cX8_drop 20 = .ok (.ifCond .ne 6, 3) := by decide +kernel
theorem dX8_drop_23 : decode cX8_drop 23 = .ok (.bipush (-11), 2) := by decide +kernel
theorem dX8_drop_25 : decode cX8_drop 25 = .ok (.ireturn, 1) := by decide +kernel
theorem dX8_drop_26 : decode cX8_drop 26 = .ok (.aload_n 0, 1) := by decide +kernel
theorem dX8_drop_27 : decode cX8_drop 27 = .ok (.getfield 25, 3) := by decide +kernel
theorem dX8_drop_30 : decode cX8_drop 30 = .ok (.iload_n 1, 1) := by decide +kernel
theorem dX8_drop_31 : decode cX8_drop 31 = .ok (.aaload, 1) := by decide +kernel
theorem dX8_drop_32 : decode cX8_drop 32 = .ok (.iconst 0, 1) := by decide +kernel
theorem dX8_drop_33 : decode cX8_drop 33 = .ok (.putfield 140, 3) := by decide +kernel
theorem dX8_drop_36 : decode cX8_drop 36 = .ok (.aload_n 0, 1) := by decide +kernel
theorem dX8_drop_37 : decode cX8_drop 37 = .ok (.getfield 25, 3) := by decide +kernel
