theorem dX8_drop_40 : decode cX8_drop 40 = .ok (.iload_n 1, 1) := by decide +kernel
theorem dX8_drop_41 : decode cX8_drop 41 = .ok (.aaload, 1) := by decide +kernel
theorem dX8_drop_42 : decode cX8_drop 42 = .ok (.getfield 144, 3) := by decide +kernel
theorem dX8_drop_45 : decode cX8_drop 45 = .ok (.ireturn, 1) := by decide +kernel
set_option maxRecDepth 20000 in
theorem ggX8_item_X8_within : GoodIn wsX8_item wsX8_within := goodIn_sub (am_cons (List.mem_cons_of_mem _ (List.mem_append_left _ (List.mem_append_left _ (List.mem_of_getElem? (i := 4) rfl)))) (am_nil)) (by decide +kernel)
set_option maxRecDepth 20000 in
theorem gX8_item_X8_within : GoodIn wsX8_item (va_wsS RX8 83 yX8_within wsX8_within) := goodIn_app (goodIn_sub (am_cons (List.mem_cons_of_mem _ (List.mem_append_left _ (List.mem_append_left _ (List.mem_of_getElem? (i := 1) rfl)))) (am_cons (List.mem_cons_of_mem _ (List.mem_append_left _ (List.mem_append_left _ (List.mem_of_getElem? (i := 2) rfl)))) (am_cons (List.mem_cons_of_mem _ (List.mem_append_left _ (List.mem_append_left _ (List.mem_of_getElem? (i := 3) rfl)))) am_nil))) (by decide +kernel)) ggX8_item_X8_within
set_option maxRecDepth 20000 in
theorem ggX8_item_X7_put : GoodIn wsX8_item wsX7_put := goodIn_sub (am_cons (List.mem_cons_of_mem _ (List.mem_append_left _ (List.mem_append_left _ (List.mem_of_getElem? (i := 9) rfl)))) (am_app (am_cons (List.mem_cons_of_mem _ (List.mem_append_left _ (List.mem_append_left _ (List.mem_of_getElem? (i := 10) rfl)))) (am_cons (List.mem_cons_of_mem _ (List.mem_append_left _ (List.mem_append_left _ (List.mem_of_getElem? (i := 11) rfl)))) (am_cons (List.mem_cons_of_mem _ (List.mem_append_left _ (List.mem_append_left _ (List.mem_of_getElem? (i := 12) rfl)))) (am_cons (List.mem_cons_of_mem _ (List.mem_append_left _ (List.mem_append_left _ (List.mem_of_getElem? (i := 2) rfl)))) (am_cons (List.mem_cons_of_mem _ (List.mem_append_left _ (List.mem_append_left _ (List.mem_of_getElem? (i := 3) rfl)))) (am_cons (List.mem_cons_of_mem _ (List.mem_append_left _ (List.mem_append_left _ (List.mem_of_getElem? (i := 4) rfl)))) am_nil)))))) (fun _ h => List.mem_cons_of_mem _ (List.mem_append_right _ (h))))) (by decide +kernel)
set_option maxRecDepth 20000 in
theorem gX8_item_X7_put : GoodIn wsX8_item (wsV RX8 150 RX7 yX7_put wsX7_put) := goodIn_app (goodIn_sub (am_cons (List.mem_cons_of_mem _ (List.mem_append_left _ (List.mem_append_left _ (List.mem_of_getElem? (i := 5) rfl)))) (am_cons (List.mem_cons_of_mem _ (List.mem_append_left _ (List.mem_append_left _ (List.mem_of_getElem? (i := 6) rfl)))) (am_cons (List.mem_cons_of_mem _ (List.mem_append_left _ (List.mem_append_left _ (List.mem_of_getElem? (i := 7) rfl)))) (am_cons (List.mem_cons_of_mem _ (List.mem_append_left _ (List.mem_append_left _ (List.mem_of_getElem? (i := 8) rfl)))) am_nil)))) (by decide +kernel)) ggX8_item_X7_put
theorem dX8_item_0 : decode cX8_item 0 = .ok (.iload_n 1, 1) := by decide +kernel
theorem dX8_item_1 : decode cX8_item 1 = .ok (.iconst 0, 1) := by decide +kernel
theorem dX8_item_2 : decode cX8_item 2 = .ok (.iconst 3, 1) := by decide +kernel
theorem dX8_item_3 : decode cX8_item 3 = .ok (.invokestatic 83, 3) := by decide +kernel
theorem dX8_item_6 : decode cX8_item 6 = .ok (.ifCond .eq 26, 3) := by decide +kernel
theorem dX8_item_9 : decode cX8_item 9 = .ok (.iload_n 2, 1) := by decide +kernel
theorem dX8_item_10 : decode cX8_item 10 = .ok (.iconst 0, 1) := by decide +kernel
theorem dX8_item_11 : decode cX8_item 11 = .ok (.iconst 2, 1) := by decide +kernel
theorem dX8_item_12 : decode cX8_item 12 = .ok (.invokestatic 83, 3) := by decide +kernel
theorem dX8_item_15 : decode cX8_item 15 = .ok (.ifCond .eq 17, 3) := by decide +kernel
theorem dX8_item_18 : decode cX8_item 18 = .ok (.iload 4, 2) := by decide +kernel
theorem dX8_item_20 : decode cX8_item 20 = .ok (.sipush (-30000), 3) := by decide +kernel
theorem dX8_item_23 : decode cX8_item 23 = .ok (.sipush 30000, 3) := by decide +kernel
theorem dX8_item_26 : decode cX8_item 26 = .ok (.invokestatic 83, 3) := by decide +kernel
theorem dX8_item_29 : decode cX8_item 29 = .ok (.ifCond .ne 5, 3) := by decide +kernel
theorem dX8_item_32 : decode cX8_item 32 = .ok (.iconst (-1), 1) := by decide +kernel
theorem dX8_item_33 : decode cX8_item 33 = .ok (.ireturn, 1) := by decide +kernel
theorem dX8_item_34 : decode cX8_item 34 = .ok (.aload_n 0, 1) := by decide +kernel
theorem dX8_item_35 : decode cX8_item 35 = .ok (.getfield 25, 3) := by decide +kernel
theorem dX8_item_38 : decode cX8_item 38 = .ok (.iload_n 1, 1) := by decide +kernel
theorem dX8_item_39 : decode cX8_item 39 = .ok (.aaload, 1) := by decide +kernel
theorem dX8_item_40 : decode cX8_item 40 = .ok (.astore 5, 2) := by decide +kernel
theorem dX8_item_42 : decode cX8_item 42 = .ok (.aload 5, 2) := by decide +kernel
theorem dX8_item_44 : decode cX8_item 44 = .ok (.getfield 140, 3) := by decide +kernel
theorem dX8_item_47 : decode cX8_item 47 = .ok (.ifCond .ne 6, 3) := by decide +kernel
theorem dX8_item_50 : decode cX8_item 50 = .ok (.bipush (-11), 2) := by decide +kernel
theorem dX8_item_52 : decode cX8_item 52 = .ok (.ireturn, 1) := by decide +kernel
theorem dX8_item_53 : decode cX8_item 53 = .ok (.aload 5, 2) := by decide +kernel
theorem dX8_item_55 : decode cX8_item 55 = .ok (.getfield 147, 3) := by decide +kernel
theorem dX8_item_58 : decode cX8_item 58 = .ok (.iload_n 2, 1) := by decide +kernel
theorem dX8_item_59 : decode cX8_item 59 = .ok (.if_icmp .eq 6, 3) := by decide +kernel
theorem dX8_item_62 : decode cX8_item 62 = .ok (.bipush (-12), 2) := by decide +kernel
theorem dX8_item_64 : decode cX8_item 64 = .ok (.ireturn, 1) := by decide +kernel
theorem dX8_item_65 : decode cX8_item 65 = .ok (.iload_n 3, 1) := by decide +kernel
theorem dX8_item_66 : decode cX8_item 66 = .ok (.iconst 0, 1) := by decide +kernel
theorem dX8_item_67 : decode cX8_item 67 = .ok (.aload 5, 2) := by decide +kernel
theorem dX8_item_69 : decode cX8_item 69 = .ok (.getfield 144, 3) := by decide +kernel
theorem dX8_item_72 : decode cX8_item 72 = .ok (.iconst 1, 1) := by decide +kernel
theorem dX8_item_73 : decode cX8_item 73 = .ok (.isub, 1) := by decide +kernel
theorem dX8_item_74 : decode cX8_item 74 = .ok (.invokestatic 83, 3) := by decide +kernel
theorem dX8_item_77 : decode cX8_item 77 = .ok (.ifCond .ne 6, 3) := by decide +kernel
theorem dX8_item_80 : decode cX8_item 80 = .ok (.bipush (-13), 2) := by decide +kernel
theorem dX8_item_82 : decode cX8_item 82 = .ok (.ireturn, 1) := by decide +kernel
theorem dX8_item_83 : decode cX8_item 83 = .ok (.aload 5, 2) := by decide +kernel
theorem dX8_item_85 : decode cX8_item 85 = .ok (.iload_n 3, 1) := by decide +kernel
theorem dX8_item_86 : decode cX8_item 86 = .ok (.iload 4, 2) := by decide +kernel
theorem dX8_item_88 : decode cX8_item 88 = .ok (.invokevirtual 150, 3) := by decide +kernel
theorem dX8_item_91 : decode cX8_item 91 = .ok (.iconst 1, 1) := by decide +kernel
theorem dX8_item_92 : decode cX8_item 92 = .ok (.ireturn, 1) := by decide +kernel
set_option maxRecDepth 20000 in
theorem ggX8_cut_X8_within : GoodIn wsX8_cut wsX8_within := goodIn_sub (am_cons (List.mem_cons_of_mem _ (List.mem_append_left _ (List.mem_append_left _ (List.mem_append_left _ (List.mem_append_left _ (List.mem_append_left _ (List.mem_of_getElem? (i := 6) rfl))))))) (am_nil)) (by decide +kernel)
set_option maxRecDepth 20000 in
theorem gX8_cut_X8_within : GoodIn wsX8_cut (va_wsS RX8 83 yX8_within wsX8_within) := goodIn_app (goodIn_sub (am_cons (List.mem_cons_of_mem _ (List.mem_append_left _ (List.mem_append_left _ (List.mem_append_left _ (List.mem_append_left _ (List.mem_append_left _ (List.mem_of_getElem? (i := 3) rfl))))))) (am_cons (List.mem_cons_of_mem _ (List.mem_append_left _ (List.mem_append_left _ (List.mem_append_left _ (List.mem_append_left _ (List.mem_append_left _ (List.mem_of_getElem? (i := 4) rfl))))))) (am_cons (List.mem_cons_of_mem _ (List.mem_append_left _ (List.mem_append_left _ (List.mem_append_left _ (List.mem_append_left _ (List.mem_append_left _ (List.mem_of_getElem? (i := 5) rfl))))))) am_nil))) (by decide +kernel)) ggX8_cut_X8_within
set_option maxRecDepth 20000 in
theorem ggX8_cut_X4_hasTurns : GoodIn wsX8_cut wsX4_hasTurns := goodIn_sub (am_cons (List.mem_cons_of_mem _ (List.mem_append_left _ (List.mem_append_left _ (List.mem_append_left _ (List.mem_append_left _ (List.mem_append_left _ (List.mem_of_getElem? (i := 11) rfl))))))) (am_app (am_cons (List.mem_cons_of_mem _ (List.mem_append_left _ (List.mem_append_left _ (List.mem_append_left _ (List.mem_append_left _ (List.mem_append_left _ (List.mem_of_getElem? (i := 12) rfl))))))) am_nil) (fun _ h => List.mem_cons_of_mem _ (List.mem_append_left _ (List.mem_append_right _ (h)))))) (by decide +kernel)
set_option maxRecDepth 20000 in
theorem gX8_cut_X4_hasTurns : GoodIn wsX8_cut (wsV RX8 154 RX4 yX4_hasTurns wsX4_hasTurns) := goodIn_app (goodIn_sub (am_cons (List.mem_cons_of_mem _ (List.mem_append_left _ (List.mem_append_left _ (List.mem_append_left _ (List.mem_append_left _ (List.mem_append_left _ (List.mem_of_getElem? (i := 7) rfl))))))) (am_cons (List.mem_cons_of_mem _ (List.mem_append_left _ (List.mem_append_left _ (List.mem_append_left _ (List.mem_append_left _ (List.mem_append_left _ (List.mem_of_getElem? (i := 8) rfl))))))) (am_cons (List.mem_cons_of_mem _ (List.mem_append_left _ (List.mem_append_left _ (List.mem_append_left _ (List.mem_append_left _ (List.mem_append_left _ (List.mem_of_getElem? (i := 9) rfl))))))) (am_cons (List.mem_cons_of_mem _ (List.mem_append_left _ (List.mem_append_left _ (List.mem_append_left _ (List.mem_append_left _ (List.mem_append_left _ (List.mem_of_getElem? (i := 10) rfl))))))) am_nil)))) (by decide +kernel)) ggX8_cut_X4_hasTurns
set_option maxRecDepth 20000 in
theorem ggX8_cut_X4_endOf : GoodIn wsX8_cut wsX4_endOf := goodIn_sub (am_cons (List.mem_cons_of_mem _ (List.mem_append_left _ (List.mem_append_left _ (List.mem_append_left _ (List.mem_append_left _ (List.mem_append_left _ (List.mem_of_getElem? (i := 16) rfl))))))) (am_app (am_cons (List.mem_cons_of_mem _ (List.mem_append_left _ (List.mem_append_left _ (List.mem_append_left _ (List.mem_append_left _ (List.mem_append_left _ (List.mem_of_getElem? (i := 17) rfl))))))) (am_cons (List.mem_cons_of_mem _ (List.mem_append_left _ (List.mem_append_left _ (List.mem_append_left _ (List.mem_append_left _ (List.mem_append_left _ (List.mem_of_getElem? (i := 18) rfl))))))) (am_cons (List.mem_cons_of_mem _ (List.mem_append_left _ (List.mem_append_left _ (List.mem_append_left _ (List.mem_append_left _ (List.mem_append_left _ (List.mem_of_getElem? (i := 19) rfl))))))) (am_cons (List.mem_cons_of_mem _ (List.mem_append_left _ (List.mem_append_left _ (List.mem_append_left _ (List.mem_append_left _ (List.mem_append_left _ (List.mem_of_getElem? (i := 8) rfl))))))) (am_cons (List.mem_cons_of_mem _ (List.mem_append_left _ (List.mem_append_left _ (List.mem_append_left _ (List.mem_append_left _ (List.mem_append_left _ (List.mem_of_getElem? (i := 9) rfl))))))) (am_cons (List.mem_cons_of_mem _ (List.mem_append_left _ (List.mem_append_left _ (List.mem_append_left _ (List.mem_append_left _ (List.mem_append_left _ (List.mem_of_getElem? (i := 10) rfl))))))) (am_cons (List.mem_cons_of_mem _ (List.mem_append_left _ (List.mem_append_left _ (List.mem_append_left _ (List.mem_append_left _ (List.mem_append_left _ (List.mem_of_getElem? (i := 11) rfl))))))) (am_cons (List.mem_cons_of_mem _ (List.mem_append_left _ (List.mem_append_left _ (List.mem_append_left _ (List.mem_append_left _ (List.mem_append_left _ (List.mem_of_getElem? (i := 12) rfl))))))) am_nil)))))))) (fun _ h => List.mem_cons_of_mem _ (List.mem_append_left _ (List.mem_append_right _ (h)))))) (by decide +kernel)
set_option maxRecDepth 20000 in
theorem gX8_cut_X4_endOf : GoodIn wsX8_cut (wsV RX8 158 RX4 yX4_endOf wsX4_endOf) := goodIn_app (goodIn_sub (am_cons (List.mem_cons_of_mem _ (List.mem_append_left _ (List.mem_append_left _ (List.mem_append_left _ (List.mem_append_left _ (List.mem_append_left _ (List.mem_of_getElem? (i := 13) rfl))))))) (am_cons (List.mem_cons_of_mem _ (List.mem_append_left _ (List.mem_append_left _ (List.mem_append_left _ (List.mem_append_left _ (List.mem_append_left _ (List.mem_of_getElem? (i := 14) rfl))))))) (am_cons (List.mem_cons_of_mem _ (List.mem_append_left _ (List.mem_append_left _ (List.mem_append_left _ (List.mem_append_left _ (List.mem_append_left _ (List.mem_of_getElem? (i := 15) rfl))))))) (am_cons (List.mem_cons_of_mem _ (List.mem_append_left _ (List.mem_append_left _ (List.mem_append_left _ (List.mem_append_left _ (List.mem_append_left _ (List.mem_of_getElem? (i := 10) rfl))))))) am_nil)))) (by decide +kernel)) ggX8_cut_X4_endOf
set_option maxRecDepth 20000 in
theorem ggX8_cut_X7_lastHeard : GoodIn wsX8_cut wsX7_lastHeard := goodIn_sub (am_cons (List.mem_cons_of_mem _ (List.mem_append_left _ (List.mem_append_left _ (List.mem_append_left _ (List.mem_append_left _ (List.mem_append_right _ (List.mem_append_left _ (List.mem_of_getElem? (i := 0) rfl)))))))) (am_app (am_cons (List.mem_cons_of_mem _ (List.mem_append_left _ (List.mem_append_left _ (List.mem_append_left _ (List.mem_append_left _ (List.mem_append_right _ (List.mem_append_left _ (List.mem_of_getElem? (i := 1) rfl)))))))) (am_cons (List.mem_cons_of_mem _ (List.mem_append_left _ (List.mem_append_left _ (List.mem_append_left _ (List.mem_append_left _ (List.mem_append_right _ (List.mem_append_left _ (List.mem_of_getElem? (i := 2) rfl)))))))) am_nil)) (fun _ h => List.mem_cons_of_mem _ (List.mem_append_left _ (List.mem_append_left _ (List.mem_append_right _ (h))))))) (by decide +kernel)
set_option maxRecDepth 20000 in
theorem gX8_cut_X7_lastHeard : GoodIn wsX8_cut (wsV RX8 161 RX7 yX7_lastHeard wsX7_lastHeard) := goodIn_app (goodIn_sub (am_cons (List.mem_cons_of_mem _ (List.mem_append_left _ (List.mem_append_left _ (List.mem_append_left _ (List.mem_append_left _ (List.mem_append_left _ (List.mem_of_getElem? (i := 20) rfl))))))) (am_cons (List.mem_cons_of_mem _ (List.mem_append_left _ (List.mem_append_left _ (List.mem_append_left _ (List.mem_append_left _ (List.mem_append_left _ (List.mem_of_getElem? (i := 21) rfl))))))) (am_cons (List.mem_cons_of_mem _ (List.mem_append_left _ (List.mem_append_left _ (List.mem_append_left _ (List.mem_append_left _ (List.mem_append_left _ (List.mem_of_getElem? (i := 22) rfl))))))) (am_cons (List.mem_cons_of_mem _ (List.mem_append_left _ (List.mem_append_left _ (List.mem_append_left _ (List.mem_append_left _ (List.mem_append_left _ (List.mem_of_getElem? (i := 23) rfl))))))) am_nil)))) (by decide +kernel)) ggX8_cut_X7_lastHeard
set_option maxRecDepth 20000 in
theorem ggX8_cut_X5_take : GoodIn wsX8_cut wsX5_take := goodIn_sub (am_cons (List.mem_cons_of_mem _ (List.mem_append_left _ (List.mem_append_left _ (List.mem_append_left _ (List.mem_append_left _ (List.mem_append_right _ (List.mem_append_left _ (List.mem_of_getElem? (i := 7) rfl)))))))) (am_app (am_app (am_app (am_app (am_cons (List.mem_cons_of_mem _ (List.mem_append_left _ (List.mem_append_left _ (List.mem_append_left _ (List.mem_append_left _ (List.mem_append_right _ (List.mem_append_left _ (List.mem_of_getElem? (i := 8) rfl)))))))) (am_cons (List.mem_cons_of_mem _ (List.mem_append_left _ (List.mem_append_left _ (List.mem_append_left _ (List.mem_append_left _ (List.mem_append_right _ (List.mem_append_left _ (List.mem_of_getElem? (i := 9) rfl)))))))) (am_cons (List.mem_cons_of_mem _ (List.mem_append_left _ (List.mem_append_left _ (List.mem_append_left _ (List.mem_append_left _ (List.mem_append_right _ (List.mem_append_left _ (List.mem_of_getElem? (i := 10) rfl)))))))) (am_cons (List.mem_cons_of_mem _ (List.mem_append_left _ (List.mem_append_left _ (List.mem_append_left _ (List.mem_append_left _ (List.mem_append_right _ (List.mem_append_left _ (List.mem_of_getElem? (i := 11) rfl)))))))) (am_cons (List.mem_cons_of_mem _ (List.mem_append_left _ (List.mem_append_left _ (List.mem_append_left _ (List.mem_append_left _ (List.mem_append_right _ (List.mem_append_left _ (List.mem_of_getElem? (i := 12) rfl)))))))) (am_cons (List.mem_cons_of_mem _ (List.mem_append_left _ (List.mem_append_left _ (List.mem_append_left _ (List.mem_append_left _ (List.mem_append_left _ (List.mem_of_getElem? (i := 10) rfl))))))) (am_cons (List.mem_cons_of_mem _ (List.mem_append_left _ (List.mem_append_left _ (List.mem_append_left _ (List.mem_append_left _ (List.mem_append_right _ (List.mem_append_left _ (List.mem_of_getElem? (i := 13) rfl)))))))) (am_cons (List.mem_cons_of_mem _ (List.mem_append_left _ (List.mem_append_left _ (List.mem_append_left _ (List.mem_append_left _ (List.mem_append_left _ (List.mem_of_getElem? (i := 18) rfl))))))) (am_cons (List.mem_cons_of_mem _ (List.mem_append_left _ (List.mem_append_left _ (List.mem_append_left _ (List.mem_append_left _ (List.mem_append_left _ (List.mem_of_getElem? (i := 17) rfl))))))) (am_cons (List.mem_cons_of_mem _ (List.mem_append_left _ (List.mem_append_left _ (List.mem_append_left _ (List.mem_append_left _ (List.mem_append_left _ (List.mem_of_getElem? (i := 19) rfl))))))) (am_cons (List.mem_cons_of_mem _ (List.mem_append_left _ (List.mem_append_left _ (List.mem_append_left _ (List.mem_append_left _ (List.mem_append_left _ (List.mem_of_getElem? (i := 8) rfl))))))) (am_cons (List.mem_cons_of_mem _ (List.mem_append_left _ (List.mem_append_left _ (List.mem_append_left _ (List.mem_append_left _ (List.mem_append_left _ (List.mem_of_getElem? (i := 9) rfl))))))) (am_cons (List.mem_cons_of_mem _ (List.mem_append_left _ (List.mem_append_left _ (List.mem_append_left _ (List.mem_append_left _ (List.mem_append_left _ (List.mem_of_getElem? (i := 11) rfl))))))) (am_cons (List.mem_cons_of_mem _ (List.mem_append_left _ (List.mem_append_left _ (List.mem_append_left _ (List.mem_append_left _ (List.mem_append_left _ (List.mem_of_getElem? (i := 12) rfl))))))) (am_cons (List.mem_cons_of_mem _ (List.mem_append_left _ (List.mem_append_left _ (List.mem_append_left _ (List.mem_append_left _ (List.mem_append_right _ (List.mem_append_left _ (List.mem_of_getElem? (i := 14) rfl)))))))) (am_cons (List.mem_cons_of_mem _ (List.mem_append_left _ (List.mem_append_left _ (List.mem_append_left _ (List.mem_append_left _ (List.mem_append_right _ (List.mem_append_left _ (List.mem_of_getElem? (i := 15) rfl)))))))) (am_cons (List.mem_cons_of_mem _ (List.mem_append_left _ (List.mem_append_left _ (List.mem_append_left _ (List.mem_append_left _ (List.mem_append_right _ (List.mem_append_left _ (List.mem_of_getElem? (i := 16) rfl)))))))) (am_cons (List.mem_cons_of_mem _ (List.mem_append_left _ (List.mem_append_left _ (List.mem_append_left _ (List.mem_append_left _ (List.mem_append_left _ (List.mem_of_getElem? (i := 23) rfl))))))) (am_cons (List.mem_cons_of_mem _ (List.mem_append_left _ (List.mem_append_left _ (List.mem_append_left _ (List.mem_append_left _ (List.mem_append_right _ (List.mem_append_left _ (List.mem_of_getElem? (i := 17) rfl)))))))) (am_cons (List.mem_cons_of_mem _ (List.mem_append_left _ (List.mem_append_left _ (List.mem_append_left _ (List.mem_append_left _ (List.mem_append_right _ (List.mem_append_left _ (List.mem_of_getElem? (i := 2) rfl)))))))) (am_cons (List.mem_cons_of_mem _ (List.mem_append_left _ (List.mem_append_left _ (List.mem_append_left _ (List.mem_append_left _ (List.mem_append_right _ (List.mem_append_left _ (List.mem_of_getElem? (i := 18) rfl)))))))) (am_cons (List.mem_cons_of_mem _ (List.mem_append_left _ (List.mem_append_left _ (List.mem_append_left _ (List.mem_append_left _ (List.mem_append_right _ (List.mem_append_left _ (List.mem_of_getElem? (i := 19) rfl)))))))) (am_cons (List.mem_cons_of_mem _ (List.mem_append_left _ (List.mem_append_left _ (List.mem_append_left _ (List.mem_append_left _ (List.mem_append_left _ (List.mem_of_getElem? (i := 21) rfl))))))) (am_cons (List.mem_cons_of_mem _ (List.mem_append_left _ (List.mem_append_left _ (List.mem_append_left _ (List.mem_append_left _ (List.mem_append_left _ (List.mem_of_getElem? (i := 22) rfl))))))) am_nil)))))))))))))))))))))))) (am_cons (List.mem_cons_of_mem _ (List.mem_append_left _ (List.mem_append_left _ (List.mem_append_left _ (List.mem_append_left _ (List.mem_append_right _ (List.mem_append_left _ (List.mem_of_getElem? (i := 0) rfl)))))))) (am_cons (List.mem_cons_of_mem _ (List.mem_append_left _ (List.mem_append_left _ (List.mem_append_left _ (List.mem_append_left _ (List.mem_append_right _ (List.mem_append_left _ (List.mem_of_getElem? (i := 1) rfl)))))))) (am_cons (List.mem_cons_of_mem _ (List.mem_append_left _ (List.mem_append_left _ (List.mem_append_left _ (List.mem_append_left _ (List.mem_append_left _ (List.mem_of_getElem? (i := 4) rfl))))))) (am_cons (List.mem_cons_of_mem _ (List.mem_append_left _ (List.mem_append_left _ (List.mem_append_left _ (List.mem_append_left _ (List.mem_append_left _ (List.mem_of_getElem? (i := 5) rfl))))))) (am_cons (List.mem_cons_of_mem _ (List.mem_append_left _ (List.mem_append_left _ (List.mem_append_left _ (List.mem_append_left _ (List.mem_append_left _ (List.mem_of_getElem? (i := 6) rfl))))))) (am_cons (List.mem_cons_of_mem _ (List.mem_append_left _ (List.mem_append_left _ (List.mem_append_left _ (List.mem_append_left _ (List.mem_append_right _ (List.mem_append_left _ (List.mem_of_getElem? (i := 20) rfl)))))))) (am_cons (List.mem_cons_of_mem _ (List.mem_append_left _ (List.mem_append_left _ (List.mem_append_left _ (List.mem_append_left _ (List.mem_append_right _ (List.mem_append_left _ (List.mem_of_getElem? (i := 21) rfl)))))))) (am_cons (List.mem_cons_of_mem _ (List.mem_append_left _ (List.mem_append_left _ (List.mem_append_left _ (List.mem_append_left _ (List.mem_append_right _ (List.mem_append_left _ (List.mem_of_getElem? (i := 22) rfl)))))))) (am_cons (List.mem_cons_of_mem _ (List.mem_append_left _ (List.mem_append_left _ (List.mem_append_left _ (List.mem_append_left _ (List.mem_append_right _ (List.mem_append_left _ (List.mem_of_getElem? (i := 23) rfl)))))))) (am_cons (List.mem_cons_of_mem _ (List.mem_append_left _ (List.mem_append_left _ (List.mem_append_left _ (List.mem_append_left _ (List.mem_append_right _ (List.mem_append_right _ (List.mem_of_getElem? (i := 0) rfl)))))))) am_nil))))))))))) (fun _ h => List.mem_cons_of_mem _ (List.mem_append_right _ (h)))) (fun _ h => List.mem_cons_of_mem _ (List.mem_append_left _ (List.mem_append_right _ (h))))) (fun _ h => List.mem_cons_of_mem _ (List.mem_append_left _ (List.mem_append_left _ (List.mem_append_right _ (h))))))) (by decide +kernel)
set_option maxRecDepth 20000 in
theorem gX8_cut_X5_take : GoodIn wsX8_cut (wsV RX8 164 RX5 yX5_take wsX5_take) := goodIn_app (goodIn_sub (am_cons (List.mem_cons_of_mem _ (List.mem_append_left _ (List.mem_append_left _ (List.mem_append_left _ (List.mem_append_left _ (List.mem_append_right _ (List.mem_append_left _ (List.mem_of_getElem? (i := 3) rfl)))))))) (am_cons (List.mem_cons_of_mem _ (List.mem_append_left _ (List.mem_append_left _ (List.mem_append_left _ (List.mem_append_left _ (List.mem_append_right _ (List.mem_append_left _ (List.mem_of_getElem? (i := 4) rfl)))))))) (am_cons (List.mem_cons_of_mem _ (List.mem_append_left _ (List.mem_append_left _ (List.mem_append_left _ (List.mem_append_left _ (List.mem_append_right _ (List.mem_append_left _ (List.mem_of_getElem? (i := 5) rfl)))))))) (am_cons (List.mem_cons_of_mem _ (List.mem_append_left _ (List.mem_append_left _ (List.mem_append_left _ (List.mem_append_left _ (List.mem_append_right _ (List.mem_append_left _ (List.mem_of_getElem? (i := 6) rfl)))))))) am_nil)))) (by decide +kernel)) ggX8_cut_X5_take
theorem dX8_cut_0 : decode cX8_cut 0 = .ok (.iload_n 1, 1) := by decide +kernel
theorem dX8_cut_1 : decode cX8_cut 1 = .ok (.iconst 0, 1) := by decide +kernel
theorem dX8_cut_2 : decode cX8_cut 2 = .ok (.iconst 3, 1) := by decide +kernel
theorem dX8_cut_3 : decode cX8_cut 3 = .ok (.invokestatic 83, 3) := by decide +kernel
theorem dX8_cut_6 : decode cX8_cut 6 = .ok (.ifCond .eq 17, 3) := by decide +kernel
theorem dX8_cut_9 : decode cX8_cut 9 = .ok (.iload_n 2, 1) := by decide +kernel
theorem dX8_cut_10 : decode cX8_cut 10 = .ok (.ifCond .lt 13, 3) := by decide +kernel
theorem dX8_cut_13 : decode cX8_cut 13 = .ok (.iload_n 3, 1) := by decide +kernel
theorem dX8_cut_14 : decode cX8_cut 14 = .ok (.iconst 1, 1) := by decide +kernel
theorem dX8_cut_15 : decode cX8_cut 15 = .ok (.bipush 40, 2) := by decide +kernel
theorem dX8_cut_17 : decode cX8_cut 17 = .ok (.invokestatic 83, 3) := by decide +kernel
theorem dX8_cut_20 : decode cX8_cut 20 = .ok (.ifCond .ne 5, 3) := by decide +kernel
theorem dX8_cut_23 : decode cX8_cut 23 = .ok (.iconst (-1), 1) := by decide +kernel
theorem dX8_cut_24 : decode cX8_cut 24 = .ok (.ireturn, 1) := by decide +kernel
theorem dX8_cut_25 : decode cX8_cut 25 = .ok (.aload_n 0, 1) := by decide +kernel
theorem dX8_cut_26 : decode cX8_cut 26 = .ok (.getfield 25, 3) := by decide +kernel
theorem dX8_cut_29 : decode cX8_cut 29 = .ok (.iload_n 1, 1) := by decide +kernel
theorem dX8_cut_30 : decode cX8_cut 30 = .ok (.aaload, 1) := by decide +kernel
theorem dX8_cut_31 : decode cX8_cut 31 = .ok (.astore 4, 2) := by decide +kernel
theorem dX8_cut_33 : decode cX8_cut 33 = .ok (.aload 4, 2) := by decide +kernel
theorem dX8_cut_35 : decode cX8_cut 35 = .ok (.getfield 140, 3) := by decide +kernel
theorem dX8_cut_38 : decode cX8_cut 38 = .ok (.ifCond .ne 6, 3) := by decide +kernel
theorem dX8_cut_41 : decode cX8_cut 41 = .ok (.bipush (-11), 2) := by decide +kernel
theorem dX8_cut_43 : decode cX8_cut 43 = .ok (.ireturn, 1) := by decide +kernel
theorem dX8_cut_44 : decode cX8_cut 44 = .ok (.aload_n 0, 1) := by decide +kernel
theorem dX8_cut_45 : decode cX8_cut 45 = .ok (.getfield 19, 3) := by decide +kernel
theorem dX8_cut_48 : decode cX8_cut 48 = .ok (.iload_n 2, 1) := by decide +kernel
theorem dX8_cut_49 : decode cX8_cut 49 = .ok (.iload_n 3, 1) := by decide +kernel
theorem dX8_cut_50 : decode cX8_cut 50 = .ok (.invokevirtual 154, 3) := by decide +kernel
theorem dX8_cut_53 : decode cX8_cut 53 = .ok (.ifCond .eq 23, 3) := by decide +kernel
theorem dX8_cut_56 : decode cX8_cut 56 = .ok (.aload_n 0, 1) := by decide +kernel
theorem dX8_cut_57 : decode cX8_cut 57 = .ok (.getfield 19, 3) := by decide +kernel
theorem dX8_cut_60 : decode cX8_cut 60 = .ok (.iload_n 2, 1) := by decide +kernel
theorem dX8_cut_61 : decode cX8_cut 61 = .ok (.iload_n 3, 1) := by decide +kernel
theorem dX8_cut_62 : decode cX8_cut 62 = .ok (.iadd, 1) := by decide +kernel
theorem dX8_cut_63 : decode cX8_cut 63 = .ok (.iconst 1, 1) := by decide +kernel
theorem dX8_cut_64 : decode cX8_cut 64 = .ok (.isub, 1) := by decide +kernel
theorem dX8_cut_65 : decode cX8_cut 65 = .ok (.invokevirtual 158, 3) := by decide +kernel
theorem dX8_cut_68 : decode cX8_cut 68 = .ok (.aload 4, 2) := by decide +kernel
theorem dX8_cut_70 : decode cX8_cut 70 = .ok (.invokevirtual 161, 3) := by decide +kernel
theorem dX8_cut_73 : decode cX8_cut 73 = .ok (.if_icmp .le 6, 3) := by decide +kernel
theorem dX8_cut_76 : decode cX8_cut 76 = .ok (.bipush (-2), 2) := by decide +kernel
theorem dX8_cut_78 : decode cX8_cut 78 = .ok (.ireturn, 1) := by decide +kernel
theorem dX8_cut_79 : decode cX8_cut 79 = .ok (.aload_n 0, 1) := by decide +kernel
theorem dX8_cut_80 : decode cX8_cut 80 = .ok (.getfield 32, 3) := by decide +kernel
theorem dX8_cut_83 : decode cX8_cut 83 = .ok (.aload 4, 2) := by decide +kernel
theorem dX8_cut_85 : decode cX8_cut 85 = .ok (.aload_n 0, 1) := by decide +kernel
theorem dX8_cut_86 : decode cX8_cut 86 = .ok (.getfield 19, 3) := by decide +kernel
theorem dX8_cut_89 : decode cX8_cut 89 = .ok (.iload_n 2, 1) := by decide +kernel
theorem dX8_cut_90 : decode cX8_cut 90 = .ok (.iload_n 3, 1) := by decide +kernel
theorem dX8_cut_91 : decode cX8_cut 91 = .ok (.invokevirtual 164, 3) := by decide +kernel
theorem dX8_cut_94 : decode cX8_cut 94 = .ok (.iload_n 3, 1) := by decide +kernel
theorem dX8_cut_95 : decode cX8_cut 95 = .ok (.ireturn, 1) := by decide +kernel
set_option maxRecDepth 20000 in
theorem ggX8_mean_X8_within : GoodIn wsX8_mean wsX8_within := goodIn_sub (am_cons (List.mem_cons_of_mem _ (List.mem_append_left _ (List.mem_append_left _ (List.mem_of_getElem? (i := 6) rfl)))) (am_nil)) (by decide +kernel)
set_option maxRecDepth 20000 in
theorem gX8_mean_X8_within : GoodIn wsX8_mean (va_wsS RX8 83 yX8_within wsX8_within) := goodIn_app (goodIn_sub (am_cons (List.mem_cons_of_mem _ (List.mem_append_left _ (List.mem_append_left _ (List.mem_of_getElem? (i := 3) rfl)))) (am_cons (List.mem_cons_of_mem _ (List.mem_append_left _ (List.mem_append_left _ (List.mem_of_getElem? (i := 4) rfl)))) (am_cons (List.mem_cons_of_mem _ (List.mem_append_left _ (List.mem_append_left _ (List.mem_of_getElem? (i := 5) rfl)))) am_nil))) (by decide +kernel)) ggX8_mean_X8_within
theorem dX8_mean_0 : decode cX8_mean 0 = .ok (.iload_n 1, 1) := by decide +kernel
theorem dX8_mean_1 : decode cX8_mean 1 = .ok (.iconst 0, 1) := by decide +kernel
theorem dX8_mean_2 : decode cX8_mean 2 = .ok (.bipush 31, 2) := by decide +kernel
theorem dX8_mean_4 : decode cX8_mean 4 = .ok (.invokestatic 83, 3) := by decide +kernel
theorem dX8_mean_7 : decode cX8_mean 7 = .ok (.ifCond .ne 6, 3) := by decide +kernel
theorem dX8_mean_10 : decode cX8_mean 10 = .ok (.ldc 168, 2) := by decide +kernel
theorem dX8_mean_12 : decode cX8_mean 12 = .ok (.ireturn, 1) := by decide +kernel
theorem dX8_mean_13 : decode cX8_mean 13 = .ok (.aload_n 0, 1) := by decide +kernel
theorem dX8_mean_14 : decode cX8_mean 14 = .ok (.getfield 32, 3) := by decide +kernel
theorem dX8_mean_17 : decode cX8_mean 17 = .ok (.getfield 169, 3) := by decide +kernel
theorem dX8_mean_20 : decode cX8_mean 20 = .ok (.ifCond .eq 15, 3) := by decide +kernel
theorem dX8_mean_23 : decode cX8_mean 23 = .ok (.aload_n 0, 1) := by decide +kernel
theorem dX8_mean_24 : decode cX8_mean 24 = .ok (.getfield 32, 3) := by decide +kernel
theorem dX8_mean_27 : decode cX8_mean 27 = .ok (.getfield 172, 3) := by decide +kernel
theorem dX8_mean_30 : decode cX8_mean 30 = .ok (.iload_n 1, 1) := by decide +kernel
theorem dX8_mean_31 : decode cX8_mean 31 = .ok (.iaload, 1) := by decide +kernel
theorem dX8_mean_32 : decode cX8_mean 32 = .ok (.goto 5, 3) := by decide +kernel
theorem dX8_mean_35 : decode cX8_mean 35 = .ok (.ldc 175, 2) := by decide +kernel
theorem dX8_mean_37 : decode cX8_mean 37 = .ok (.ireturn, 1) := by decide +kernel
set_option maxRecDepth 20000 in
theorem ggX8_strength_X8_within : GoodIn wsX8_strength wsX8_within := goodIn_sub (am_cons (List.mem_cons_of_mem _ (List.mem_append_left _ (List.mem_append_left _ (List.mem_of_getElem? (i := 6) rfl)))) (am_nil)) (by decide +kernel)
set_option maxRecDepth 20000 in
theorem gX8_strength_X8_within : GoodIn wsX8_strength (va_wsS RX8 83 yX8_within wsX8_within) := goodIn_app (goodIn_sub (am_cons (List.mem_cons_of_mem _ (List.mem_append_left _ (List.mem_append_left _ (List.mem_of_getElem? (i := 3) rfl)))) (am_cons (List.mem_cons_of_mem _ (List.mem_append_left _ (List.mem_append_left _ (List.mem_of_getElem? (i := 4) rfl)))) (am_cons (List.mem_cons_of_mem _ (List.mem_append_left _ (List.mem_append_left _ (List.mem_of_getElem? (i := 5) rfl)))) am_nil))) (by decide +kernel)) ggX8_strength_X8_within
set_option maxRecDepth 20000 in
theorem ggX8_strength_X5_strengthAt : GoodIn wsX8_strength wsX5_strengthAt := goodIn_sub (am_cons (List.mem_cons_of_mem _ (List.mem_append_left _ (List.mem_append_left _ (List.mem_of_getElem? (i := 11) rfl)))) (am_app (am_cons (List.mem_cons_of_mem _ (List.mem_append_left _ (List.mem_append_left _ (List.mem_of_getElem? (i := 12) rfl)))) (am_cons (List.mem_cons_of_mem _ (List.mem_append_left _ (List.mem_append_left _ (List.mem_of_getElem? (i := 13) rfl)))) (am_cons (List.mem_cons_of_mem _ (List.mem_append_left _ (List.mem_append_left _ (List.mem_of_getElem? (i := 14) rfl)))) (am_cons (List.mem_cons_of_mem _ (List.mem_append_left _ (List.mem_append_left _ (List.mem_of_getElem? (i := 5) rfl)))) (am_cons (List.mem_cons_of_mem _ (List.mem_append_left _ (List.mem_append_left _ (List.mem_of_getElem? (i := 15) rfl)))) (am_cons (List.mem_cons_of_mem _ (List.mem_append_left _ (List.mem_append_left _ (List.mem_of_getElem? (i := 16) rfl)))) (am_cons (List.mem_cons_of_mem _ (List.mem_append_left _ (List.mem_append_left _ (List.mem_of_getElem? (i := 17) rfl)))) (am_cons (List.mem_cons_of_mem _ (List.mem_append_left _ (List.mem_append_left _ (List.mem_of_getElem? (i := 18) rfl)))) (am_cons (List.mem_cons_of_mem _ (List.mem_append_left _ (List.mem_append_left _ (List.mem_of_getElem? (i := 19) rfl)))) (am_cons (List.mem_cons_of_mem _ (List.mem_append_left _ (List.mem_append_left _ (List.mem_of_getElem? (i := 20) rfl)))) am_nil)))))))))) (fun _ h => List.mem_cons_of_mem _ (List.mem_append_right _ (h))))) (by decide +kernel)
set_option maxRecDepth 20000 in
theorem gX8_strength_X5_strengthAt : GoodIn wsX8_strength (wsV RX8 176 RX5 yX5_strengthAt wsX5_strengthAt) := goodIn_app (goodIn_sub (am_cons (List.mem_cons_of_mem _ (List.mem_append_left _ (List.mem_append_left _ (List.mem_of_getElem? (i := 7) rfl)))) (am_cons (List.mem_cons_of_mem _ (List.mem_append_left _ (List.mem_append_left _ (List.mem_of_getElem? (i := 8) rfl)))) (am_cons (List.mem_cons_of_mem _ (List.mem_append_left _ (List.mem_append_left _ (List.mem_of_getElem? (i := 9) rfl)))) (am_cons (List.mem_cons_of_mem _ (List.mem_append_left _ (List.mem_append_left _ (List.mem_of_getElem? (i := 10) rfl)))) am_nil)))) (by decide +kernel)) ggX8_strength_X5_strengthAt
theorem dX8_strength_0 : decode cX8_strength 0 = .ok (.iload_n 1, 1) := by decide +kernel
theorem dX8_strength_1 : decode cX8_strength 1 = .ok (.iconst 0, 1) := by decide +kernel
theorem dX8_strength_2 : decode cX8_strength 2 = .ok (.bipush 16, 2) := by decide +kernel
theorem dX8_strength_4 : decode cX8_strength 4 = .ok (.invokestatic 83, 3) := by decide +kernel
theorem dX8_strength_7 : decode cX8_strength 7 = .ok (.ifCond .ne 7, 3) := by decide +kernel
theorem dX8_strength_10 : decode cX8_strength 10 = .ok (.ldc2_w 87, 3) := by decide +kernel
theorem dX8_strength_13 : decode cX8_strength 13 = .ok (.lreturn, 1) := by decide +kernel
theorem dX8_strength_14 : decode cX8_strength 14 = .ok (.aload_n 0, 1) := by decide +kernel
theorem dX8_strength_15 : decode cX8_strength 15 = .ok (.getfield 32, 3) := by decide +kernel
theorem dX8_strength_18 : decode cX8_strength 18 = .ok (.getfield 169, 3) := by decide +kernel
theorem dX8_strength_21 : decode cX8_strength 21 = .ok (.ifCond .eq 14, 3) := by decide +kernel
theorem dX8_strength_24 : decode cX8_strength 24 = .ok (.aload_n 0, 1) := by decide +kernel
theorem dX8_strength_25 : decode cX8_strength 25 = .ok (.getfield 32, 3) := by decide +kernel
theorem dX8_strength_28 : decode cX8_strength 28 = .ok (.iload_n 1, 1) := by decide +kernel
theorem dX8_strength_29 : decode cX8_strength 29 = .ok (.invokevirtual 176, 3) := by decide +kernel
theorem dX8_strength_32 : decode cX8_strength 32 = .ok (.goto 6, 3) := by decide +kernel
theorem dX8_strength_35 : decode cX8_strength 35 = .ok (.ldc2_w 179, 3) := by decide +kernel
theorem dX8_strength_38 : decode cX8_strength 38 = .ok (.lreturn, 1) := by decide +kernel
set_option maxRecDepth 20000 in
theorem ggX8_line_X1_add : GoodIn wsX8_line wsX1_add := goodIn_sub (am_cons (List.mem_cons_of_mem _ (List.mem_append_left _ (List.mem_append_left _ (List.mem_append_left _ (List.mem_of_getElem? (i := 6) rfl))))) (am_app (am_cons (List.mem_cons_of_mem _ (List.mem_append_left _ (List.mem_append_left _ (List.mem_append_left _ (List.mem_of_getElem? (i := 7) rfl))))) (am_cons (List.mem_cons_of_mem _ (List.mem_append_left _ (List.mem_append_left _ (List.mem_append_left _ (List.mem_of_getElem? (i := 8) rfl))))) (am_cons (List.mem_cons_of_mem _ (List.mem_append_left _ (List.mem_append_left _ (List.mem_append_left _ (List.mem_of_getElem? (i := 9) rfl))))) (am_cons (List.mem_cons_of_mem _ (List.mem_append_left _ (List.mem_append_left _ (List.mem_append_left _ (List.mem_of_getElem? (i := 10) rfl))))) (am_cons (List.mem_cons_of_mem _ (List.mem_append_left _ (List.mem_append_left _ (List.mem_append_left _ (List.mem_of_getElem? (i := 11) rfl))))) (am_cons (List.mem_cons_of_mem _ (List.mem_append_left _ (List.mem_append_left _ (List.mem_append_left _ (List.mem_of_getElem? (i := 12) rfl))))) am_nil)))))) (fun _ h => List.mem_cons_of_mem _ (List.mem_append_left _ (List.mem_append_right _ (h)))))) (by decide +kernel)
set_option maxRecDepth 20000 in
theorem gX8_line_X1_add : GoodIn wsX8_line (wsV RX8 181 RX1 yX1_add wsX1_add) := goodIn_app (goodIn_sub (am_cons (List.mem_cons_of_mem _ (List.mem_append_left _ (List.mem_append_left _ (List.mem_append_left _ (List.mem_of_getElem? (i := 2) rfl))))) (am_cons (List.mem_cons_of_mem _ (List.mem_append_left _ (List.mem_append_left _ (List.mem_append_left _ (List.mem_of_getElem? (i := 3) rfl))))) (am_cons (List.mem_cons_of_mem _ (List.mem_append_left _ (List.mem_append_left _ (List.mem_append_left _ (List.mem_of_getElem? (i := 4) rfl))))) (am_cons (List.mem_cons_of_mem _ (List.mem_append_left _ (List.mem_append_left _ (List.mem_append_left _ (List.mem_of_getElem? (i := 5) rfl))))) am_nil)))) (by decide +kernel)) ggX8_line_X1_add
set_option maxRecDepth 20000 in
theorem ggX8_line_X0_forget : GoodIn wsX8_line wsX0_forget := goodIn_sub (am_cons (List.mem_cons_of_mem _ (List.mem_append_left _ (List.mem_append_left _ (List.mem_append_left _ (List.mem_of_getElem? (i := 17) rfl))))) (am_app (am_cons (List.mem_cons_of_mem _ (List.mem_append_left _ (List.mem_append_left _ (List.mem_append_left _ (List.mem_of_getElem? (i := 18) rfl))))) am_nil) (fun _ h => List.mem_cons_of_mem _ (List.mem_append_right _ (h))))) (by decide +kernel)
set_option maxRecDepth 20000 in
theorem gX8_line_X0_forget : GoodIn wsX8_line (wsV RX8 72 RX0 yX0_forget wsX0_forget) := goodIn_app (goodIn_sub (am_cons (List.mem_cons_of_mem _ (List.mem_append_left _ (List.mem_append_left _ (List.mem_append_left _ (List.mem_of_getElem? (i := 13) rfl))))) (am_cons (List.mem_cons_of_mem _ (List.mem_append_left _ (List.mem_append_left _ (List.mem_append_left _ (List.mem_of_getElem? (i := 14) rfl))))) (am_cons (List.mem_cons_of_mem _ (List.mem_append_left _ (List.mem_append_left _ (List.mem_append_left _ (List.mem_of_getElem? (i := 15) rfl))))) (am_cons (List.mem_cons_of_mem _ (List.mem_append_left _ (List.mem_append_left _ (List.mem_append_left _ (List.mem_of_getElem? (i := 16) rfl))))) am_nil)))) (by decide +kernel)) ggX8_line_X0_forget
theorem dX8_line_0 : decode cX8_line 0 = .ok (.aload_n 0, 1) := by decide +kernel
theorem dX8_line_1 : decode cX8_line 1 = .ok (.getfield 39, 3) := by decide +kernel
theorem dX8_line_4 : decode cX8_line 4 = .ok (.iload_n 1, 1) := by decide +kernel
theorem dX8_line_5 : decode cX8_line 5 = .ok (.iload_n 2, 1) := by decide +kernel
theorem dX8_line_6 : decode cX8_line 6 = .ok (.invokevirtual 181, 3) := by decide +kernel
theorem dX8_line_9 : decode cX8_line 9 = .ok (.istore_n 3, 1) := by decide +kernel
theorem dX8_line_10 : decode cX8_line 10 = .ok (.iload_n 3, 1) := by decide +kernel
theorem dX8_line_11 : decode cX8_line 11 = .ok (.ifCond .lt 10, 3) := by decide +kernel
theorem dX8_line_14 : decode cX8_line 14 = .ok (.aload_n 0, 1) := by decide +kernel
theorem dX8_line_15 : decode cX8_line 15 = .ok (.getfield 46, 3) := by decide +kernel
theorem dX8_line_18 : decode cX8_line 18 = .ok (.invokevirtual 72, 3) := by decide +kernel
theorem dX8_line_21 : decode cX8_line 21 = .ok (.iload_n 3, 1) := by decide +kernel
theorem dX8_line_22 : decode cX8_line 22 = .ok (.ireturn, 1) := by decide +kernel
set_option maxRecDepth 20000 in
theorem ggX8_unline_X0_forget : GoodIn wsX8_unline wsX0_forget := goodIn_sub (am_cons (List.mem_cons_of_mem _ (List.mem_append_left _ (List.mem_append_left _ (List.mem_append_left _ (List.mem_of_getElem? (i := 6) rfl))))) (am_app (am_cons (List.mem_cons_of_mem _ (List.mem_append_left _ (List.mem_append_left _ (List.mem_append_left _ (List.mem_of_getElem? (i := 7) rfl))))) am_nil) (fun _ h => List.mem_cons_of_mem _ (List.mem_append_right _ (h))))) (by decide +kernel)
set_option maxRecDepth 20000 in
theorem gX8_unline_X0_forget : GoodIn wsX8_unline (wsV RX8 72 RX0 yX0_forget wsX0_forget) := goodIn_app (goodIn_sub (am_cons (List.mem_cons_of_mem _ (List.mem_append_left _ (List.mem_append_left _ (List.mem_append_left _ (List.mem_of_getElem? (i := 2) rfl))))) (am_cons (List.mem_cons_of_mem _ (List.mem_append_left _ (List.mem_append_left _ (List.mem_append_left _ (List.mem_of_getElem? (i := 3) rfl))))) (am_cons (List.mem_cons_of_mem _ (List.mem_append_left _ (List.mem_append_left _ (List.mem_append_left _ (List.mem_of_getElem? (i := 4) rfl))))) (am_cons (List.mem_cons_of_mem _ (List.mem_append_left _ (List.mem_append_left _ (List.mem_append_left _ (List.mem_of_getElem? (i := 5) rfl))))) am_nil)))) (by decide +kernel)) ggX8_unline_X0_forget
theorem dX8_unline_0 : decode cX8_unline 0 = .ok (.aload_n 0, 1) := by decide +kernel
theorem dX8_unline_1 : decode cX8_unline 1 = .ok (.getfield 39, 3) := by decide +kernel
theorem dX8_unline_4 : decode cX8_unline 4 = .ok (.getfield 184, 3) := by decide +kernel
theorem dX8_unline_7 : decode cX8_unline 7 = .ok (.istore_n 1, 1) := by decide +kernel
theorem dX8_unline_8 : decode cX8_unline 8 = .ok (.aload_n 0, 1) := by decide +kernel
theorem dX8_unline_9 : decode cX8_unline 9 = .ok (.getfield 39, 3) := by decide +kernel
theorem dX8_unline_12 : decode cX8_unline 12 = .ok (.iconst 0, 1) := by decide +kernel
theorem dX8_unline_13 : decode cX8_unline 13 = .ok (.putfield 184, 3) := by decide +kernel
theorem dX8_unline_16 : decode cX8_unline 16 = .ok (.aload_n 0, 1) := by decide +kernel
theorem dX8_unline_17 : decode cX8_unline 17 = .ok (.getfield 46, 3) := by decide +kernel
theorem dX8_unline_20 : decode cX8_unline 20 = .ok (.invokevirtual 72, 3) := by decide +kernel
theorem dX8_unline_23 : decode cX8_unline 23 = .ok (.iload_n 1, 1) := by decide +kernel
theorem dX8_unline_24 : decode cX8_unline 24 = .ok (.ireturn, 1) := by decide +kernel
set_option maxRecDepth 20000 in
theorem ggX8_slip_X8_within : GoodIn wsX8_slip wsX8_within := goodIn_sub (am_cons (List.mem_cons_of_mem _ (List.mem_append_left _ (List.mem_append_left _ (List.mem_append_left _ (List.mem_of_getElem? (i := 5) rfl))))) (am_nil)) (by decide +kernel)
set_option maxRecDepth 20000 in
theorem gX8_slip_X8_within : GoodIn wsX8_slip (va_wsS RX8 83 yX8_within wsX8_within) := goodIn_app (goodIn_sub (am_cons (List.mem_cons_of_mem _ (List.mem_append_left _ (List.mem_append_left _ (List.mem_append_left _ (List.mem_of_getElem? (i := 2) rfl))))) (am_cons (List.mem_cons_of_mem _ (List.mem_append_left _ (List.mem_append_left _ (List.mem_append_left _ (List.mem_of_getElem? (i := 3) rfl))))) (am_cons (List.mem_cons_of_mem _ (List.mem_append_left _ (List.mem_append_left _ (List.mem_append_left _ (List.mem_of_getElem? (i := 4) rfl))))) am_nil))) (by decide +kernel)) ggX8_slip_X8_within
set_option maxRecDepth 20000 in
theorem ggX8_slip_X0_forget : GoodIn wsX8_slip wsX0_forget := goodIn_sub (am_cons (List.mem_cons_of_mem _ (List.mem_append_left _ (List.mem_append_left _ (List.mem_append_left _ (List.mem_of_getElem? (i := 10) rfl))))) (am_app (am_cons (List.mem_cons_of_mem _ (List.mem_append_left _ (List.mem_append_left _ (List.mem_append_left _ (List.mem_of_getElem? (i := 11) rfl))))) am_nil) (fun _ h => List.mem_cons_of_mem _ (List.mem_append_right _ (h))))) (by decide +kernel)
set_option maxRecDepth 20000 in
theorem gX8_slip_X0_forget : GoodIn wsX8_slip (wsV RX8 72 RX0 yX0_forget wsX0_forget) := goodIn_app (goodIn_sub (am_cons (List.mem_cons_of_mem _ (List.mem_append_left _ (List.mem_append_left _ (List.mem_append_left _ (List.mem_of_getElem? (i := 6) rfl))))) (am_cons (List.mem_cons_of_mem _ (List.mem_append_left _ (List.mem_append_left _ (List.mem_append_left _ (List.mem_of_getElem? (i := 7) rfl))))) (am_cons (List.mem_cons_of_mem _ (List.mem_append_left _ (List.mem_append_left _ (List.mem_append_left _ (List.mem_of_getElem? (i := 8) rfl))))) (am_cons (List.mem_cons_of_mem _ (List.mem_append_left _ (List.mem_append_left _ (List.mem_append_left _ (List.mem_of_getElem? (i := 9) rfl))))) am_nil)))) (by decide +kernel)) ggX8_slip_X0_forget
theorem dX8_slip_0 : decode cX8_slip 0 = .ok (.iload_n 1, 1) := by decide +kernel
theorem dX8_slip_1 : decode cX8_slip 1 = .ok (.iconst 0, 1) := by decide +kernel
theorem dX8_slip_2 : decode cX8_slip 2 = .ok (.bipush 100, 2) := by decide +kernel
theorem dX8_slip_4 : decode cX8_slip 4 = .ok (.invokestatic 83, 3) := by decide +kernel
theorem dX8_slip_7 : decode cX8_slip 7 = .ok (.ifCond .ne 5, 3) := by decide +kernel
theorem dX8_slip_10 : decode cX8_slip 10 = .ok (.iconst (-1), 1) := by decide +kernel
theorem dX8_slip_11 : decode cX8_slip 11 = .ok (.ireturn, 1) := by decide +kernel
theorem dX8_slip_12 : decode cX8_slip 12 = .ok (.aload_n 0, 1) := by decide +kernel
theorem dX8_slip_13 : decode cX8_slip 13 = .ok (.getfield 39, 3) := by decide +kernel
theorem dX8_slip_16 : decode cX8_slip 16 = .ok (.getfield 185, 3) := by decide +kernel
theorem dX8_slip_19 : decode cX8_slip 19 = .ok (.istore_n 2, 1) := by decide +kernel
theorem dX8_slip_20 : decode cX8_slip 20 = .ok (.aload_n 0, 1) := by decide +kernel
theorem dX8_slip_21 : decode cX8_slip 21 = .ok (.getfield 39, 3) := by decide +kernel
theorem dX8_slip_24 : decode cX8_slip 24 = .ok (.iload_n 1, 1) := by decide +kernel
theorem dX8_slip_25 : decode cX8_slip 25 = .ok (.putfield 185, 3) := by decide +kernel
theorem dX8_slip_28 : decode cX8_slip 28 = .ok (.aload_n 0, 1) := by decide +kernel
theorem dX8_slip_29 : decode cX8_slip 29 = .ok (.getfield 46, 3) := by decide +kernel
theorem dX8_slip_32 : decode cX8_slip 32 = .ok (.invokevirtual 72, 3) := by decide +kernel
theorem dX8_slip_35 : decode cX8_slip 35 = .ok (.iload_n 2, 1) := by decide +kernel
theorem dX8_slip_36 : decode cX8_slip 36 = .ok (.ireturn, 1) := by decide +kernel
set_option maxRecDepth 20000 in
theorem ggX8_explains_X3_find : GoodIn wsX8_explains wsX3_find := goodIn_sub (am_cons (List.mem_cons_of_mem _ (List.mem_append_left _ (List.mem_append_left _ (List.mem_append_left _ (List.mem_append_left _ (List.mem_append_left _ (List.mem_of_getElem? (i := 6) rfl))))))) (am_app (am_cons (List.mem_cons_of_mem _ (List.mem_append_left _ (List.mem_append_left _ (List.mem_append_left _ (List.mem_append_left _ (List.mem_append_left _ (List.mem_of_getElem? (i := 7) rfl))))))) (am_cons (List.mem_cons_of_mem _ (List.mem_append_left _ (List.mem_append_left _ (List.mem_append_left _ (List.mem_append_left _ (List.mem_append_left _ (List.mem_of_getElem? (i := 8) rfl))))))) (am_cons (List.mem_cons_of_mem _ (List.mem_append_left _ (List.mem_append_left _ (List.mem_append_left _ (List.mem_append_left _ (List.mem_append_left _ (List.mem_of_getElem? (i := 9) rfl))))))) (am_cons (List.mem_cons_of_mem _ (List.mem_append_left _ (List.mem_append_left _ (List.mem_append_left _ (List.mem_append_left _ (List.mem_append_left _ (List.mem_of_getElem? (i := 10) rfl))))))) (am_cons (List.mem_cons_of_mem _ (List.mem_append_left _ (List.mem_append_left _ (List.mem_append_left _ (List.mem_append_left _ (List.mem_append_left _ (List.mem_of_getElem? (i := 11) rfl))))))) (am_cons (List.mem_cons_of_mem _ (List.mem_append_left _ (List.mem_append_left _ (List.mem_append_left _ (List.mem_append_left _ (List.mem_append_left _ (List.mem_of_getElem? (i := 12) rfl))))))) (am_cons (List.mem_cons_of_mem _ (List.mem_append_left _ (List.mem_append_left _ (List.mem_append_left _ (List.mem_append_left _ (List.mem_append_left _ (List.mem_of_getElem? (i := 13) rfl))))))) (am_cons (List.mem_cons_of_mem _ (List.mem_append_left _ (List.mem_append_left _ (List.mem_append_left _ (List.mem_append_left _ (List.mem_append_left _ (List.mem_of_getElem? (i := 5) rfl))))))) (am_cons (List.mem_cons_of_mem _ (List.mem_append_left _ (List.mem_append_left _ (List.mem_append_left _ (List.mem_append_left _ (List.mem_append_left _ (List.mem_of_getElem? (i := 14) rfl))))))) (am_cons (List.mem_cons_of_mem _ (List.mem_append_left _ (List.mem_append_left _ (List.mem_append_left _ (List.mem_append_left _ (List.mem_append_left _ (List.mem_of_getElem? (i := 15) rfl))))))) am_nil)))))))))) (fun _ h => List.mem_cons_of_mem _ (List.mem_append_left _ (List.mem_append_left _ (List.mem_append_right _ (h))))))) (by decide +kernel)
set_option maxRecDepth 20000 in
theorem gX8_explains_X3_find : GoodIn wsX8_explains (wsV RX8 100 RX3 yX3_find wsX3_find) := goodIn_app (goodIn_sub (am_cons (List.mem_cons_of_mem _ (List.mem_append_left _ (List.mem_append_left _ (List.mem_append_left _ (List.mem_append_left _ (List.mem_append_left _ (List.mem_of_getElem? (i := 2) rfl))))))) (am_cons (List.mem_cons_of_mem _ (List.mem_append_left _ (List.mem_append_left _ (List.mem_append_left _ (List.mem_append_left _ (List.mem_append_left _ (List.mem_of_getElem? (i := 3) rfl))))))) (am_cons (List.mem_cons_of_mem _ (List.mem_append_left _ (List.mem_append_left _ (List.mem_append_left _ (List.mem_append_left _ (List.mem_append_left _ (List.mem_of_getElem? (i := 4) rfl))))))) (am_cons (List.mem_cons_of_mem _ (List.mem_append_left _ (List.mem_append_left _ (List.mem_append_left _ (List.mem_append_left _ (List.mem_append_left _ (List.mem_of_getElem? (i := 5) rfl))))))) am_nil)))) (by decide +kernel)) ggX8_explains_X3_find
set_option maxRecDepth 20000 in
theorem ggX8_explains_X1_explainedBy : GoodIn wsX8_explains wsX1_explainedBy := goodIn_sub (am_cons (List.mem_cons_of_mem _ (List.mem_append_left _ (List.mem_append_left _ (List.mem_append_left _ (List.mem_append_left _ (List.mem_append_left _ (List.mem_of_getElem? (i := 20) rfl))))))) (am_app (am_app (am_cons (List.mem_cons_of_mem _ (List.mem_append_left _ (List.mem_append_left _ (List.mem_append_left _ (List.mem_append_left _ (List.mem_append_left _ (List.mem_of_getElem? (i := 21) rfl))))))) (am_cons (List.mem_cons_of_mem _ (List.mem_append_left _ (List.mem_append_left _ (List.mem_append_left _ (List.mem_append_left _ (List.mem_append_left _ (List.mem_of_getElem? (i := 22) rfl))))))) (am_cons (List.mem_cons_of_mem _ (List.mem_append_left _ (List.mem_append_left _ (List.mem_append_left _ (List.mem_append_left _ (List.mem_append_left _ (List.mem_of_getElem? (i := 23) rfl))))))) (am_cons (List.mem_cons_of_mem _ (List.mem_append_left _ (List.mem_append_left _ (List.mem_append_left _ (List.mem_append_left _ (List.mem_append_left _ (List.mem_of_getElem? (i := 19) rfl))))))) (am_cons (List.mem_cons_of_mem _ (List.mem_append_left _ (List.mem_append_left _ (List.mem_append_left _ (List.mem_append_left _ (List.mem_append_right _ (List.mem_of_getElem? (i := 0) rfl))))))) (am_cons (List.mem_cons_of_mem _ (List.mem_append_left _ (List.mem_append_left _ (List.mem_append_left _ (List.mem_append_left _ (List.mem_append_right _ (List.mem_of_getElem? (i := 1) rfl))))))) (am_cons (List.mem_cons_of_mem _ (List.mem_append_left _ (List.mem_append_left _ (List.mem_append_left _ (List.mem_append_left _ (List.mem_append_right _ (List.mem_of_getElem? (i := 2) rfl))))))) (am_cons (List.mem_cons_of_mem _ (List.mem_append_left _ (List.mem_append_left _ (List.mem_append_left _ (List.mem_append_left _ (List.mem_append_right _ (List.mem_of_getElem? (i := 3) rfl))))))) (am_cons (List.mem_cons_of_mem _ (List.mem_append_left _ (List.mem_append_left _ (List.mem_append_left _ (List.mem_append_left _ (List.mem_append_right _ (List.mem_of_getElem? (i := 4) rfl))))))) (am_cons (List.mem_cons_of_mem _ (List.mem_append_left _ (List.mem_append_left _ (List.mem_append_left _ (List.mem_append_left _ (List.mem_append_right _ (List.mem_of_getElem? (i := 5) rfl))))))) (am_cons (List.mem_cons_of_mem _ (List.mem_append_left _ (List.mem_append_left _ (List.mem_append_left _ (List.mem_append_left _ (List.mem_append_right _ (List.mem_of_getElem? (i := 6) rfl))))))) (am_cons (List.mem_cons_of_mem _ (List.mem_append_left _ (List.mem_append_left _ (List.mem_append_left _ (List.mem_append_left _ (List.mem_append_right _ (List.mem_of_getElem? (i := 7) rfl))))))) (am_cons (List.mem_cons_of_mem _ (List.mem_append_left _ (List.mem_append_left _ (List.mem_append_left _ (List.mem_append_left _ (List.mem_append_right _ (List.mem_of_getElem? (i := 8) rfl))))))) (am_cons (List.mem_cons_of_mem _ (List.mem_append_left _ (List.mem_append_left _ (List.mem_append_left _ (List.mem_append_left _ (List.mem_append_right _ (List.mem_of_getElem? (i := 9) rfl))))))) am_nil)))))))))))))) (fun _ h => List.mem_cons_of_mem _ (List.mem_append_left _ (List.mem_append_right _ (h))))) (fun _ h => List.mem_cons_of_mem _ (List.mem_append_right _ (h))))) (by decide +kernel)
set_option maxRecDepth 20000 in
theorem gX8_explains_X1_explainedBy : GoodIn wsX8_explains (wsV RX8 188 RX1 yX1_explainedBy wsX1_explainedBy) := goodIn_app (goodIn_sub (am_cons (List.mem_cons_of_mem _ (List.mem_append_left _ (List.mem_append_left _ (List.mem_append_left _ (List.mem_append_left _ (List.mem_append_left _ (List.mem_of_getElem? (i := 16) rfl))))))) (am_cons (List.mem_cons_of_mem _ (List.mem_append_left _ (List.mem_append_left _ (List.mem_append_left _ (List.mem_append_left _ (List.mem_append_left _ (List.mem_of_getElem? (i := 17) rfl))))))) (am_cons (List.mem_cons_of_mem _ (List.mem_append_left _ (List.mem_append_left _ (List.mem_append_left _ (List.mem_append_left _ (List.mem_append_left _ (List.mem_of_getElem? (i := 18) rfl))))))) (am_cons (List.mem_cons_of_mem _ (List.mem_append_left _ (List.mem_append_left _ (List.mem_append_left _ (List.mem_append_left _ (List.mem_append_left _ (List.mem_of_getElem? (i := 19) rfl))))))) am_nil)))) (by decide +kernel)) ggX8_explains_X1_explainedBy
theorem dX8_explains_0 : decode cX8_explains 0 = .ok (.aload_n 0, 1) := by decide +kernel
theorem dX8_explains_1 : decode cX8_explains 1 = .ok (.getfield 12, 3) := by decide +kernel
theorem dX8_explains_4 : decode cX8_explains 4 = .ok (.iload_n 1, 1) := by decide +kernel
theorem dX8_explains_5 : decode cX8_explains 5 = .ok (.invokevirtual 100, 3) := by decide +kernel
theorem dX8_explains_8 : decode cX8_explains 8 = .ok (.astore_n 2, 1) := by decide +kernel
theorem dX8_explains_9 : decode cX8_explains 9 = .ok (.aload_n 2, 1) := by decide +kernel
theorem dX8_explains_10 : decode cX8_explains 10 = .ok (.ifnonnull 7, 3) := by decide +kernel
theorem dX8_explains_13 : decode cX8_explains 13 = .ok (.iconst (-1), 1) := by decide +kernel
theorem dX8_explains_14 : decode cX8_explains 14 = .ok (.goto 11, 3) := by decide +kernel
theorem dX8_explains_17 : decode cX8_explains 17 = .ok (.aload_n 0, 1) := by decide +kernel
theorem dX8_explains_18 : decode cX8_explains 18 = .ok (.getfield 39, 3) := by decide +kernel
theorem dX8_explains_21 : decode cX8_explains 21 = .ok (.aload_n 2, 1) := by decide +kernel
theorem dX8_explains_22 : decode cX8_explains 22 = .ok (.invokevirtual 188, 3) := by decide +kernel
theorem dX8_explains_25 : decode cX8_explains 25 = .ok (.ireturn, 1) := by decide +kernel
set_option maxRecDepth 20000 in
theorem ggX8_named_X3_find : GoodIn wsX8_named wsX3_find := goodIn_sub (am_cons (List.mem_cons_of_mem _ (List.mem_append_left _ (List.mem_append_left _ (List.mem_append_left _ (List.mem_append_left _ (List.mem_append_left _ (List.mem_of_getElem? (i := 6) rfl))))))) (am_app (am_cons (List.mem_cons_of_mem _ (List.mem_append_left _ (List.mem_append_left _ (List.mem_append_left _ (List.mem_append_left _ (List.mem_append_left _ (List.mem_of_getElem? (i := 7) rfl))))))) (am_cons (List.mem_cons_of_mem _ (List.mem_append_left _ (List.mem_append_left _ (List.mem_append_left _ (List.mem_append_left _ (List.mem_append_left _ (List.mem_of_getElem? (i := 8) rfl))))))) (am_cons (List.mem_cons_of_mem _ (List.mem_append_left _ (List.mem_append_left _ (List.mem_append_left _ (List.mem_append_left _ (List.mem_append_left _ (List.mem_of_getElem? (i := 9) rfl))))))) (am_cons (List.mem_cons_of_mem _ (List.mem_append_left _ (List.mem_append_left _ (List.mem_append_left _ (List.mem_append_left _ (List.mem_append_left _ (List.mem_of_getElem? (i := 10) rfl))))))) (am_cons (List.mem_cons_of_mem _ (List.mem_append_left _ (List.mem_append_left _ (List.mem_append_left _ (List.mem_append_left _ (List.mem_append_left _ (List.mem_of_getElem? (i := 11) rfl))))))) (am_cons (List.mem_cons_of_mem _ (List.mem_append_left _ (List.mem_append_left _ (List.mem_append_left _ (List.mem_append_left _ (List.mem_append_left _ (List.mem_of_getElem? (i := 12) rfl))))))) (am_cons (List.mem_cons_of_mem _ (List.mem_append_left _ (List.mem_append_left _ (List.mem_append_left _ (List.mem_append_left _ (List.mem_append_left _ (List.mem_of_getElem? (i := 13) rfl))))))) (am_cons (List.mem_cons_of_mem _ (List.mem_append_left _ (List.mem_append_left _ (List.mem_append_left _ (List.mem_append_left _ (List.mem_append_left _ (List.mem_of_getElem? (i := 5) rfl))))))) (am_cons (List.mem_cons_of_mem _ (List.mem_append_left _ (List.mem_append_left _ (List.mem_append_left _ (List.mem_append_left _ (List.mem_append_left _ (List.mem_of_getElem? (i := 14) rfl))))))) (am_cons (List.mem_cons_of_mem _ (List.mem_append_left _ (List.mem_append_left _ (List.mem_append_left _ (List.mem_append_left _ (List.mem_append_left _ (List.mem_of_getElem? (i := 15) rfl))))))) am_nil)))))))))) (fun _ h => List.mem_cons_of_mem _ (List.mem_append_left _ (List.mem_append_left _ (List.mem_append_right _ (h))))))) (by decide +kernel)
set_option maxRecDepth 20000 in
theorem gX8_named_X3_find : GoodIn wsX8_named (wsV RX8 100 RX3 yX3_find wsX3_find) := goodIn_app (goodIn_sub (am_cons (List.mem_cons_of_mem _ (List.mem_append_left _ (List.mem_append_left _ (List.mem_append_left _ (List.mem_append_left _ (List.mem_append_left _ (List.mem_of_getElem? (i := 2) rfl))))))) (am_cons (List.mem_cons_of_mem _ (List.mem_append_left _ (List.mem_append_left _ (List.mem_append_left _ (List.mem_append_left _ (List.mem_append_left _ (List.mem_of_getElem? (i := 3) rfl))))))) (am_cons (List.mem_cons_of_mem _ (List.mem_append_left _ (List.mem_append_left _ (List.mem_append_left _ (List.mem_append_left _ (List.mem_append_left _ (List.mem_of_getElem? (i := 4) rfl))))))) (am_cons (List.mem_cons_of_mem _ (List.mem_append_left _ (List.mem_append_left _ (List.mem_append_left _ (List.mem_append_left _ (List.mem_append_left _ (List.mem_of_getElem? (i := 5) rfl))))))) am_nil)))) (by decide +kernel)) ggX8_named_X3_find
set_option maxRecDepth 20000 in
theorem ggX8_named_X1_allTonesSeen : GoodIn wsX8_named wsX1_allTonesSeen := goodIn_sub (am_cons (List.mem_cons_of_mem _ (List.mem_append_left _ (List.mem_append_left _ (List.mem_append_left _ (List.mem_append_left _ (List.mem_append_left _ (List.mem_of_getElem? (i := 20) rfl))))))) (am_app (am_app (am_cons (List.mem_cons_of_mem _ (List.mem_append_left _ (List.mem_append_left _ (List.mem_append_left _ (List.mem_append_left _ (List.mem_append_left _ (List.mem_of_getElem? (i := 21) rfl))))))) (am_cons (List.mem_cons_of_mem _ (List.mem_append_left _ (List.mem_append_left _ (List.mem_append_left _ (List.mem_append_left _ (List.mem_append_left _ (List.mem_of_getElem? (i := 22) rfl))))))) (am_cons (List.mem_cons_of_mem _ (List.mem_append_left _ (List.mem_append_left _ (List.mem_append_left _ (List.mem_append_left _ (List.mem_append_left _ (List.mem_of_getElem? (i := 23) rfl))))))) (am_cons (List.mem_cons_of_mem _ (List.mem_append_left _ (List.mem_append_left _ (List.mem_append_left _ (List.mem_append_left _ (List.mem_append_left _ (List.mem_of_getElem? (i := 19) rfl))))))) (am_cons (List.mem_cons_of_mem _ (List.mem_append_left _ (List.mem_append_left _ (List.mem_append_left _ (List.mem_append_left _ (List.mem_append_right _ (List.mem_of_getElem? (i := 0) rfl))))))) (am_cons (List.mem_cons_of_mem _ (List.mem_append_left _ (List.mem_append_left _ (List.mem_append_left _ (List.mem_append_left _ (List.mem_append_right _ (List.mem_of_getElem? (i := 1) rfl))))))) (am_cons (List.mem_cons_of_mem _ (List.mem_append_left _ (List.mem_append_left _ (List.mem_append_left _ (List.mem_append_left _ (List.mem_append_right _ (List.mem_of_getElem? (i := 2) rfl))))))) (am_cons (List.mem_cons_of_mem _ (List.mem_append_left _ (List.mem_append_left _ (List.mem_append_left _ (List.mem_append_left _ (List.mem_append_right _ (List.mem_of_getElem? (i := 3) rfl))))))) (am_cons (List.mem_cons_of_mem _ (List.mem_append_left _ (List.mem_append_left _ (List.mem_append_left _ (List.mem_append_left _ (List.mem_append_right _ (List.mem_of_getElem? (i := 4) rfl))))))) (am_cons (List.mem_cons_of_mem _ (List.mem_append_left _ (List.mem_append_left _ (List.mem_append_left _ (List.mem_append_left _ (List.mem_append_right _ (List.mem_of_getElem? (i := 5) rfl))))))) (am_cons (List.mem_cons_of_mem _ (List.mem_append_left _ (List.mem_append_left _ (List.mem_append_left _ (List.mem_append_left _ (List.mem_append_right _ (List.mem_of_getElem? (i := 6) rfl))))))) (am_cons (List.mem_cons_of_mem _ (List.mem_append_left _ (List.mem_append_left _ (List.mem_append_left _ (List.mem_append_left _ (List.mem_append_right _ (List.mem_of_getElem? (i := 7) rfl))))))) (am_cons (List.mem_cons_of_mem _ (List.mem_append_left _ (List.mem_append_left _ (List.mem_append_left _ (List.mem_append_left _ (List.mem_append_right _ (List.mem_of_getElem? (i := 8) rfl))))))) (am_cons (List.mem_cons_of_mem _ (List.mem_append_left _ (List.mem_append_left _ (List.mem_append_left _ (List.mem_append_left _ (List.mem_append_right _ (List.mem_of_getElem? (i := 9) rfl))))))) am_nil)))))))))))))) (fun _ h => List.mem_cons_of_mem _ (List.mem_append_left _ (List.mem_append_right _ (h))))) (fun _ h => List.mem_cons_of_mem _ (List.mem_append_right _ (h))))) (by decide +kernel)
set_option maxRecDepth 20000 in
theorem gX8_named_X1_allTonesSeen : GoodIn wsX8_named (wsV RX8 192 RX1 yX1_allTonesSeen wsX1_allTonesSeen) := goodIn_app (goodIn_sub (am_cons (List.mem_cons_of_mem _ (List.mem_append_left _ (List.mem_append_left _ (List.mem_append_left _ (List.mem_append_left _ (List.mem_append_left _ (List.mem_of_getElem? (i := 16) rfl))))))) (am_cons (List.mem_cons_of_mem _ (List.mem_append_left _ (List.mem_append_left _ (List.mem_append_left _ (List.mem_append_left _ (List.mem_append_left _ (List.mem_of_getElem? (i := 17) rfl))))))) (am_cons (List.mem_cons_of_mem _ (List.mem_append_left _ (List.mem_append_left _ (List.mem_append_left _ (List.mem_append_left _ (List.mem_append_left _ (List.mem_of_getElem? (i := 18) rfl))))))) (am_cons (List.mem_cons_of_mem _ (List.mem_append_left _ (List.mem_append_left _ (List.mem_append_left _ (List.mem_append_left _ (List.mem_append_left _ (List.mem_of_getElem? (i := 19) rfl))))))) am_nil)))) (by decide +kernel)) ggX8_named_X1_allTonesSeen
theorem dX8_named_0 : decode cX8_named 0 = .ok (.aload_n 0, 1) := by decide +kernel
theorem dX8_named_1 : decode cX8_named 1 = .ok (.getfield 12, 3) := by decide +kernel
theorem dX8_named_4 : decode cX8_named 4 = .ok (.iload_n 1, 1) := by decide +kernel
theorem dX8_named_5 : decode cX8_named 5 = .ok (.invokevirtual 100, 3) := by decide +kernel
theorem dX8_named_8 : decode cX8_named 8 = .ok (.astore_n 2, 1) := by decide +kernel
theorem dX8_named_9 : decode cX8_named 9 = .ok (.aload_n 2, 1) := by decide +kernel
theorem dX8_named_10 : decode cX8_named 10 = .ok (.ifnonnull 5, 3) := by decide +kernel
theorem dX8_named_13 : decode cX8_named 13 = .ok (.iconst (-1), 1) := by decide +kernel
theorem dX8_named_14 : decode cX8_named 14 = .ok (.ireturn, 1) := by decide +kernel
theorem dX8_named_15 : decode cX8_named 15 = .ok (.aload_n 0, 1) := by decide +kernel
theorem dX8_named_16 : decode cX8_named 16 = .ok (.getfield 39, 3) := by decide +kernel
theorem dX8_named_19 : decode cX8_named 19 = .ok (.aload_n 2, 1) := by decide +kernel
theorem dX8_named_20 : decode cX8_named 20 = .ok (.invokevirtual 192, 3) := by decide +kernel
theorem dX8_named_23 : decode cX8_named 23 = .ok (.ifCond .eq 7, 3) := by decide +kernel
theorem dX8_named_26 : decode cX8_named 26 = .ok (.iconst 1, 1) := by decide +kernel
theorem dX8_named_27 : decode cX8_named 27 = .ok (.goto 4, 3) := by decide +kernel
theorem dX8_named_30 : decode cX8_named 30 = .ok (.iconst 0, 1) := by decide +kernel
theorem dX8_named_31 : decode cX8_named 31 = .ok (.ireturn, 1) := by decide +kernel
set_option maxRecDepth 20000 in
theorem ggX8_heap_X0_layDown : GoodIn wsX8_heap wsX0_layDown := goodIn_sub (am_cons (List.mem_cons_of_mem _ (List.mem_append_left _ (List.mem_append_left _ (List.mem_append_left _ (List.mem_append_left _ (List.mem_append_left _ (List.mem_append_left _ (List.mem_of_getElem? (i := 7) rfl)))))))) (am_app (am_app (am_app (am_app (am_app (am_cons (List.mem_cons_of_mem _ (List.mem_append_left _ (List.mem_append_left _ (List.mem_append_left _ (List.mem_append_left _ (List.mem_append_left _ (List.mem_append_left _ (List.mem_of_getElem? (i := 8) rfl)))))))) (am_cons (List.mem_cons_of_mem _ (List.mem_append_left _ (List.mem_append_left _ (List.mem_append_left _ (List.mem_append_left _ (List.mem_append_left _ (List.mem_append_left _ (List.mem_of_getElem? (i := 9) rfl)))))))) (am_cons (List.mem_cons_of_mem _ (List.mem_append_left _ (List.mem_append_left _ (List.mem_append_left _ (List.mem_append_left _ (List.mem_append_left _ (List.mem_append_left _ (List.mem_of_getElem? (i := 10) rfl)))))))) (am_cons (List.mem_cons_of_mem _ (List.mem_append_left _ (List.mem_append_left _ (List.mem_append_left _ (List.mem_append_left _ (List.mem_append_left _ (List.mem_append_left _ (List.mem_of_getElem? (i := 11) rfl)))))))) (am_cons (List.mem_cons_of_mem _ (List.mem_append_left _ (List.mem_append_left _ (List.mem_append_left _ (List.mem_append_left _ (List.mem_append_left _ (List.mem_append_left _ (List.mem_of_getElem? (i := 6) rfl)))))))) (am_cons (List.mem_cons_of_mem _ (List.mem_append_left _ (List.mem_append_left _ (List.mem_append_left _ (List.mem_append_left _ (List.mem_append_left _ (List.mem_append_left _ (List.mem_of_getElem? (i := 12) rfl)))))))) (am_cons (List.mem_cons_of_mem _ (List.mem_append_left _ (List.mem_append_left _ (List.mem_append_left _ (List.mem_append_left _ (List.mem_append_left _ (List.mem_append_left _ (List.mem_of_getElem? (i := 13) rfl)))))))) (am_cons (List.mem_cons_of_mem _ (List.mem_append_left _ (List.mem_append_left _ (List.mem_append_left _ (List.mem_append_left _ (List.mem_append_left _ (List.mem_append_left _ (List.mem_of_getElem? (i := 14) rfl)))))))) (am_cons (List.mem_cons_of_mem _ (List.mem_append_left _ (List.mem_append_left _ (List.mem_append_left _ (List.mem_append_left _ (List.mem_append_left _ (List.mem_append_left _ (List.mem_of_getElem? (i := 15) rfl)))))))) (am_cons (List.mem_cons_of_mem _ (List.mem_append_left _ (List.mem_append_left _ (List.mem_append_left _ (List.mem_append_left _ (List.mem_append_left _ (List.mem_append_left _ (List.mem_of_getElem? (i := 16) rfl)))))))) (am_cons (List.mem_cons_of_mem _ (List.mem_append_left _ (List.mem_append_left _ (List.mem_append_left _ (List.mem_append_left _ (List.mem_append_left _ (List.mem_append_left _ (List.mem_of_getElem? (i := 17) rfl)))))))) (am_cons (List.mem_cons_of_mem _ (List.mem_append_left _ (List.mem_append_left _ (List.mem_append_left _ (List.mem_append_left _ (List.mem_append_left _ (List.mem_append_left _ (List.mem_of_getElem? (i := 18) rfl)))))))) (am_cons (List.mem_cons_of_mem _ (List.mem_append_left _ (List.mem_append_left _ (List.mem_append_left _ (List.mem_append_left _ (List.mem_append_left _ (List.mem_append_left _ (List.mem_of_getElem? (i := 19) rfl)))))))) (am_cons (List.mem_cons_of_mem _ (List.mem_append_left _ (List.mem_append_left _ (List.mem_append_left _ (List.mem_append_left _ (List.mem_append_left _ (List.mem_append_left _ (List.mem_of_getElem? (i := 20) rfl)))))))) (am_cons (List.mem_cons_of_mem _ (List.mem_append_left _ (List.mem_append_left _ (List.mem_append_left _ (List.mem_append_left _ (List.mem_append_left _ (List.mem_append_left _ (List.mem_of_getElem? (i := 21) rfl)))))))) (am_cons (List.mem_cons_of_mem _ (List.mem_append_left _ (List.mem_append_left _ (List.mem_append_left _ (List.mem_append_left _ (List.mem_append_left _ (List.mem_append_left _ (List.mem_of_getElem? (i := 22) rfl)))))))) (am_cons (List.mem_cons_of_mem _ (List.mem_append_left _ (List.mem_append_left _ (List.mem_append_left _ (List.mem_append_left _ (List.mem_append_left _ (List.mem_append_left _ (List.mem_of_getElem? (i := 23) rfl)))))))) (am_cons (List.mem_cons_of_mem _ (List.mem_append_left _ (List.mem_append_left _ (List.mem_append_left _ (List.mem_append_left _ (List.mem_append_left _ (List.mem_append_right _ (List.mem_append_left _ (List.mem_of_getElem? (i := 0) rfl))))))))) (am_cons (List.mem_cons_of_mem _ (List.mem_append_left _ (List.mem_append_left _ (List.mem_append_left _ (List.mem_append_left _ (List.mem_append_left _ (List.mem_append_right _ (List.mem_append_left _ (List.mem_of_getElem? (i := 1) rfl))))))))) (am_cons (List.mem_cons_of_mem _ (List.mem_append_left _ (List.mem_append_left _ (List.mem_append_left _ (List.mem_append_left _ (List.mem_append_left _ (List.mem_append_right _ (List.mem_append_left _ (List.mem_of_getElem? (i := 2) rfl))))))))) (am_cons (List.mem_cons_of_mem _ (List.mem_append_left _ (List.mem_append_left _ (List.mem_append_left _ (List.mem_append_left _ (List.mem_append_left _ (List.mem_append_right _ (List.mem_append_left _ (List.mem_of_getElem? (i := 3) rfl))))))))) (am_cons (List.mem_cons_of_mem _ (List.mem_append_left _ (List.mem_append_left _ (List.mem_append_left _ (List.mem_append_left _ (List.mem_append_left _ (List.mem_append_right _ (List.mem_append_left _ (List.mem_of_getElem? (i := 4) rfl))))))))) (am_cons (List.mem_cons_of_mem _ (List.mem_append_left _ (List.mem_append_left _ (List.mem_append_left _ (List.mem_append_left _ (List.mem_append_left _ (List.mem_append_right _ (List.mem_append_left _ (List.mem_of_getElem? (i := 5) rfl))))))))) (am_cons (List.mem_cons_of_mem _ (List.mem_append_left _ (List.mem_append_left _ (List.mem_append_left _ (List.mem_append_left _ (List.mem_append_left _ (List.mem_append_right _ (List.mem_append_left _ (List.mem_of_getElem? (i := 6) rfl))))))))) am_nil)))))))))))))))))))))))) (am_app (am_cons (List.mem_cons_of_mem _ (List.mem_append_left _ (List.mem_append_left _ (List.mem_append_left _ (List.mem_append_left _ (List.mem_append_left _ (List.mem_append_right _ (List.mem_append_left _ (List.mem_of_getElem? (i := 7) rfl))))))))) (am_cons (List.mem_cons_of_mem _ (List.mem_append_left _ (List.mem_append_left _ (List.mem_append_left _ (List.mem_append_left _ (List.mem_append_left _ (List.mem_append_right _ (List.mem_append_left _ (List.mem_of_getElem? (i := 8) rfl))))))))) (am_cons (List.mem_cons_of_mem _ (List.mem_append_left _ (List.mem_append_left _ (List.mem_append_left _ (List.mem_append_left _ (List.mem_append_left _ (List.mem_append_right _ (List.mem_append_left _ (List.mem_of_getElem? (i := 9) rfl))))))))) (am_cons (List.mem_cons_of_mem _ (List.mem_append_left _ (List.mem_append_left _ (List.mem_append_left _ (List.mem_append_left _ (List.mem_append_left _ (List.mem_append_right _ (List.mem_append_left _ (List.mem_of_getElem? (i := 10) rfl))))))))) (am_cons (List.mem_cons_of_mem _ (List.mem_append_left _ (List.mem_append_left _ (List.mem_append_left _ (List.mem_append_left _ (List.mem_append_left _ (List.mem_append_right _ (List.mem_append_left _ (List.mem_of_getElem? (i := 11) rfl))))))))) (am_cons (List.mem_cons_of_mem _ (List.mem_append_left _ (List.mem_append_left _ (List.mem_append_left _ (List.mem_append_left _ (List.mem_append_left _ (List.mem_append_right _ (List.mem_append_left _ (List.mem_of_getElem? (i := 12) rfl))))))))) (am_cons (List.mem_cons_of_mem _ (List.mem_append_left _ (List.mem_append_left _ (List.mem_append_left _ (List.mem_append_left _ (List.mem_append_left _ (List.mem_append_right _ (List.mem_append_left _ (List.mem_of_getElem? (i := 13) rfl))))))))) (am_cons (List.mem_cons_of_mem _ (List.mem_append_left _ (List.mem_append_left _ (List.mem_append_left _ (List.mem_append_left _ (List.mem_append_left _ (List.mem_append_right _ (List.mem_append_left _ (List.mem_of_getElem? (i := 14) rfl))))))))) (am_cons (List.mem_cons_of_mem _ (List.mem_append_left _ (List.mem_append_left _ (List.mem_append_left _ (List.mem_append_left _ (List.mem_append_left _ (List.mem_append_right _ (List.mem_append_left _ (List.mem_of_getElem? (i := 15) rfl))))))))) (am_cons (List.mem_cons_of_mem _ (List.mem_append_left _ (List.mem_append_left _ (List.mem_append_left _ (List.mem_append_left _ (List.mem_append_left _ (List.mem_append_right _ (List.mem_append_left _ (List.mem_of_getElem? (i := 16) rfl))))))))) (am_cons (List.mem_cons_of_mem _ (List.mem_append_left _ (List.mem_append_left _ (List.mem_append_left _ (List.mem_append_left _ (List.mem_append_left _ (List.mem_append_right _ (List.mem_append_left _ (List.mem_of_getElem? (i := 17) rfl))))))))) (am_cons (List.mem_cons_of_mem _ (List.mem_append_left _ (List.mem_append_left _ (List.mem_append_left _ (List.mem_append_left _ (List.mem_append_left _ (List.mem_append_right _ (List.mem_append_left _ (List.mem_of_getElem? (i := 18) rfl))))))))) (am_cons (List.mem_cons_of_mem _ (List.mem_append_left _ (List.mem_append_left _ (List.mem_append_left _ (List.mem_append_left _ (List.mem_append_left _ (List.mem_append_right _ (List.mem_append_left _ (List.mem_of_getElem? (i := 19) rfl))))))))) (am_cons (List.mem_cons_of_mem _ (List.mem_append_left _ (List.mem_append_left _ (List.mem_append_left _ (List.mem_append_left _ (List.mem_append_left _ (List.mem_append_right _ (List.mem_append_left _ (List.mem_of_getElem? (i := 20) rfl))))))))) (am_cons (List.mem_cons_of_mem _ (List.mem_append_left _ (List.mem_append_left _ (List.mem_append_left _ (List.mem_append_left _ (List.mem_append_left _ (List.mem_append_right _ (List.mem_append_left _ (List.mem_of_getElem? (i := 21) rfl))))))))) (am_cons (List.mem_cons_of_mem _ (List.mem_append_left _ (List.mem_append_left _ (List.mem_append_left _ (List.mem_append_left _ (List.mem_append_left _ (List.mem_append_right _ (List.mem_append_left _ (List.mem_of_getElem? (i := 22) rfl))))))))) (am_cons (List.mem_cons_of_mem _ (List.mem_append_left _ (List.mem_append_left _ (List.mem_append_left _ (List.mem_append_left _ (List.mem_append_left _ (List.mem_append_right _ (List.mem_append_left _ (List.mem_of_getElem? (i := 23) rfl))))))))) (am_cons (List.mem_cons_of_mem _ (List.mem_append_left _ (List.mem_append_left _ (List.mem_append_left _ (List.mem_append_left _ (List.mem_append_left _ (List.mem_append_right _ (List.mem_append_right _ (List.mem_append_left _ (List.mem_of_getElem? (i := 0) rfl)))))))))) (am_cons (List.mem_cons_of_mem _ (List.mem_append_left _ (List.mem_append_left _ (List.mem_append_left _ (List.mem_append_left _ (List.mem_append_left _ (List.mem_append_right _ (List.mem_append_right _ (List.mem_append_left _ (List.mem_of_getElem? (i := 1) rfl)))))))))) (am_cons (List.mem_cons_of_mem _ (List.mem_append_left _ (List.mem_append_left _ (List.mem_append_left _ (List.mem_append_left _ (List.mem_append_left _ (List.mem_append_right _ (List.mem_append_right _ (List.mem_append_left _ (List.mem_of_getElem? (i := 2) rfl)))))))))) (am_cons (List.mem_cons_of_mem _ (List.mem_append_left _ (List.mem_append_left _ (List.mem_append_left _ (List.mem_append_left _ (List.mem_append_left _ (List.mem_append_right _ (List.mem_append_right _ (List.mem_append_left _ (List.mem_of_getElem? (i := 3) rfl)))))))))) (am_cons (List.mem_cons_of_mem _ (List.mem_append_left _ (List.mem_append_left _ (List.mem_append_left _ (List.mem_append_left _ (List.mem_append_left _ (List.mem_append_right _ (List.mem_append_right _ (List.mem_append_left _ (List.mem_of_getElem? (i := 4) rfl)))))))))) (am_cons (List.mem_cons_of_mem _ (List.mem_append_left _ (List.mem_append_left _ (List.mem_append_left _ (List.mem_append_left _ (List.mem_append_left _ (List.mem_append_right _ (List.mem_append_right _ (List.mem_append_left _ (List.mem_of_getElem? (i := 5) rfl)))))))))) (am_cons (List.mem_cons_of_mem _ (List.mem_append_left _ (List.mem_append_left _ (List.mem_append_left _ (List.mem_append_left _ (List.mem_append_left _ (List.mem_append_right _ (List.mem_append_right _ (List.mem_append_left _ (List.mem_of_getElem? (i := 6) rfl)))))))))) am_nil)))))))))))))))))))))))) (am_cons (List.mem_cons_of_mem _ (List.mem_append_left _ (List.mem_append_left _ (List.mem_append_left _ (List.mem_append_left _ (List.mem_append_left _ (List.mem_append_right _ (List.mem_append_right _ (List.mem_append_left _ (List.mem_of_getElem? (i := 7) rfl)))))))))) (am_cons (List.mem_cons_of_mem _ (List.mem_append_left _ (List.mem_append_left _ (List.mem_append_left _ (List.mem_append_left _ (List.mem_append_left _ (List.mem_append_right _ (List.mem_append_right _ (List.mem_append_left _ (List.mem_of_getElem? (i := 8) rfl)))))))))) (am_cons (List.mem_cons_of_mem _ (List.mem_append_left _ (List.mem_append_left _ (List.mem_append_left _ (List.mem_append_left _ (List.mem_append_left _ (List.mem_append_right _ (List.mem_append_right _ (List.mem_append_left _ (List.mem_of_getElem? (i := 9) rfl)))))))))) (am_cons (List.mem_cons_of_mem _ (List.mem_append_left _ (List.mem_append_left _ (List.mem_append_left _ (List.mem_append_left _ (List.mem_append_left _ (List.mem_append_right _ (List.mem_append_right _ (List.mem_append_left _ (List.mem_of_getElem? (i := 10) rfl)))))))))) (am_cons (List.mem_cons_of_mem _ (List.mem_append_left _ (List.mem_append_left _ (List.mem_append_left _ (List.mem_append_left _ (List.mem_append_left _ (List.mem_append_right _ (List.mem_append_right _ (List.mem_append_left _ (List.mem_of_getElem? (i := 11) rfl)))))))))) (am_cons (List.mem_cons_of_mem _ (List.mem_append_left _ (List.mem_append_left _ (List.mem_append_left _ (List.mem_append_left _ (List.mem_append_left _ (List.mem_append_right _ (List.mem_append_right _ (List.mem_append_left _ (List.mem_of_getElem? (i := 12) rfl)))))))))) (am_cons (List.mem_cons_of_mem _ (List.mem_append_left _ (List.mem_append_left _ (List.mem_append_left _ (List.mem_append_left _ (List.mem_append_left _ (List.mem_append_right _ (List.mem_append_right _ (List.mem_append_left _ (List.mem_of_getElem? (i := 13) rfl)))))))))) (am_cons (List.mem_cons_of_mem _ (List.mem_append_left _ (List.mem_append_left _ (List.mem_append_left _ (List.mem_append_left _ (List.mem_append_left _ (List.mem_append_right _ (List.mem_append_right _ (List.mem_append_left _ (List.mem_of_getElem? (i := 14) rfl)))))))))) (am_cons (List.mem_cons_of_mem _ (List.mem_append_left _ (List.mem_append_left _ (List.mem_append_left _ (List.mem_append_left _ (List.mem_append_left _ (List.mem_append_right _ (List.mem_append_right _ (List.mem_append_left _ (List.mem_of_getElem? (i := 15) rfl)))))))))) (am_cons (List.mem_cons_of_mem _ (List.mem_append_left _ (List.mem_append_left _ (List.mem_append_left _ (List.mem_append_left _ (List.mem_append_left _ (List.mem_append_right _ (List.mem_append_right _ (List.mem_append_left _ (List.mem_of_getElem? (i := 16) rfl)))))))))) (am_cons (List.mem_cons_of_mem _ (List.mem_append_left _ (List.mem_append_left _ (List.mem_append_left _ (List.mem_append_left _ (List.mem_append_left _ (List.mem_append_right _ (List.mem_append_right _ (List.mem_append_left _ (List.mem_of_getElem? (i := 17) rfl)))))))))) (am_cons (List.mem_cons_of_mem _ (List.mem_append_left _ (List.mem_append_left _ (List.mem_append_left _ (List.mem_append_left _ (List.mem_append_left _ (List.mem_append_right _ (List.mem_append_right _ (List.mem_append_left _ (List.mem_of_getElem? (i := 18) rfl)))))))))) (am_cons (List.mem_cons_of_mem _ (List.mem_append_left _ (List.mem_append_left _ (List.mem_append_left _ (List.mem_append_left _ (List.mem_append_left _ (List.mem_append_right _ (List.mem_append_right _ (List.mem_append_left _ (List.mem_of_getElem? (i := 19) rfl)))))))))) (am_cons (List.mem_cons_of_mem _ (List.mem_append_left _ (List.mem_append_left _ (List.mem_append_left _ (List.mem_append_left _ (List.mem_append_left _ (List.mem_append_right _ (List.mem_append_right _ (List.mem_append_left _ (List.mem_of_getElem? (i := 20) rfl)))))))))) (am_cons (List.mem_cons_of_mem _ (List.mem_append_left _ (List.mem_append_left _ (List.mem_append_left _ (List.mem_append_left _ (List.mem_append_left _ (List.mem_append_right _ (List.mem_append_right _ (List.mem_append_left _ (List.mem_of_getElem? (i := 21) rfl)))))))))) (am_cons (List.mem_cons_of_mem _ (List.mem_append_left _ (List.mem_append_left _ (List.mem_append_left _ (List.mem_append_left _ (List.mem_append_left _ (List.mem_append_right _ (List.mem_append_right _ (List.mem_append_left _ (List.mem_of_getElem? (i := 22) rfl)))))))))) am_nil)))))))))))))))))) (fun _ h => List.mem_cons_of_mem _ (List.mem_append_left _ (List.mem_append_left _ (List.mem_append_left _ (List.mem_append_right _ (h))))))) (fun _ h => List.mem_cons_of_mem _ (List.mem_append_left _ (List.mem_append_left _ (List.mem_append_right _ (h)))))) (fun _ h => List.mem_cons_of_mem _ (List.mem_append_left _ (List.mem_append_right _ (h))))) (fun _ h => List.mem_cons_of_mem _ (List.mem_append_right _ (h))))) (by decide +kernel)
set_option maxRecDepth 20000 in
theorem gX8_heap_X0_layDown : GoodIn wsX8_heap (wsV RX8 196 RX0 yX0_layDown wsX0_layDown) := goodIn_app (goodIn_sub (am_cons (List.mem_cons_of_mem _ (List.mem_append_left _ (List.mem_append_left _ (List.mem_append_left _ (List.mem_append_left _ (List.mem_append_left _ (List.mem_append_left _ (List.mem_of_getElem? (i := 3) rfl)))))))) (am_cons (List.mem_cons_of_mem _ (List.mem_append_left _ (List.mem_append_left _ (List.mem_append_left _ (List.mem_append_left _ (List.mem_append_left _ (List.mem_append_left _ (List.mem_of_getElem? (i := 4) rfl)))))))) (am_cons (List.mem_cons_of_mem _ (List.mem_append_left _ (List.mem_append_left _ (List.mem_append_left _ (List.mem_append_left _ (List.mem_append_left _ (List.mem_append_left _ (List.mem_of_getElem? (i := 5) rfl)))))))) (am_cons (List.mem_cons_of_mem _ (List.mem_append_left _ (List.mem_append_left _ (List.mem_append_left _ (List.mem_append_left _ (List.mem_append_left _ (List.mem_append_left _ (List.mem_of_getElem? (i := 6) rfl)))))))) am_nil)))) (by decide +kernel)) ggX8_heap_X0_layDown
set_option maxRecDepth 20000 in
theorem ggX8_heap_X8_within : GoodIn wsX8_heap wsX8_within := goodIn_sub (am_cons (List.mem_cons_of_mem _ (List.mem_append_left _ (List.mem_append_left _ (List.mem_append_left _ (List.mem_append_left _ (List.mem_append_left _ (List.mem_append_right _ (List.mem_append_right _ (List.mem_append_right _ (List.mem_of_getElem? (i := 2) rfl)))))))))) (am_nil)) (by decide +kernel)
set_option maxRecDepth 20000 in
theorem gX8_heap_X8_within : GoodIn wsX8_heap (va_wsS RX8 83 yX8_within wsX8_within) := goodIn_app (goodIn_sub (am_cons (List.mem_cons_of_mem _ (List.mem_append_left _ (List.mem_append_left _ (List.mem_append_left _ (List.mem_append_left _ (List.mem_append_left _ (List.mem_append_right _ (List.mem_append_right _ (List.mem_append_left _ (List.mem_of_getElem? (i := 23) rfl)))))))))) (am_cons (List.mem_cons_of_mem _ (List.mem_append_left _ (List.mem_append_left _ (List.mem_append_left _ (List.mem_append_left _ (List.mem_append_left _ (List.mem_append_right _ (List.mem_append_right _ (List.mem_append_right _ (List.mem_of_getElem? (i := 0) rfl)))))))))) (am_cons (List.mem_cons_of_mem _ (List.mem_append_left _ (List.mem_append_left _ (List.mem_append_left _ (List.mem_append_left _ (List.mem_append_left _ (List.mem_append_right _ (List.mem_append_right _ (List.mem_append_right _ (List.mem_of_getElem? (i := 1) rfl)))))))))) am_nil))) (by decide +kernel)) ggX8_heap_X8_within
theorem dX8_heap_0 : decode cX8_heap 0 = .ok (.aload_n 0, 1) := by decide +kernel
theorem dX8_heap_1 : decode cX8_heap 1 = .ok (.getfield 46, 3) := by decide +kernel
theorem dX8_heap_4 : decode cX8_heap 4 = .ok (.aload_n 0, 1) := by decide +kernel
theorem dX8_heap_5 : decode cX8_heap 5 = .ok (.getfield 12, 3) := by decide +kernel
theorem dX8_heap_8 : decode cX8_heap 8 = .ok (.aload_n 0, 1) := by decide +kernel
theorem dX8_heap_9 : decode cX8_heap 9 = .ok (.getfield 39, 3) := by decide +kernel
theorem dX8_heap_12 : decode cX8_heap 12 = .ok (.invokevirtual 196, 3) := by decide +kernel
theorem dX8_heap_15 : decode cX8_heap 15 = .ok (.iload_n 1, 1) := by decide +kernel
theorem dX8_heap_16 : decode cX8_heap 16 = .ok (.iconst (-1), 1) := by decide +kernel
theorem dX8_heap_17 : decode cX8_heap 17 = .ok (.if_icmp .ne 11, 3) := by decide +kernel
theorem dX8_heap_20 : decode cX8_heap 20 = .ok (.aload_n 0, 1) := by decide +kernel
theorem dX8_heap_21 : decode cX8_heap 21 = .ok (.getfield 46, 3) := by decide +kernel
theorem dX8_heap_24 : decode cX8_heap 24 = .ok (.getfield 200, 3) := by decide +kernel
theorem dX8_heap_27 : decode cX8_heap 27 = .ok (.ireturn, 1) := by decide +kernel
theorem dX8_heap_28 : decode cX8_heap 28 = .ok (.iload_n 1, 1) := by decide +kernel
theorem dX8_heap_29 : decode cX8_heap 29 = .ok (.iconst 0, 1) := by decide +kernel
theorem dX8_heap_30 : decode cX8_heap 30 = .ok (.aload_n 0, 1) := by decide +kernel
theorem dX8_heap_31 : decode cX8_heap 31 = .ok (.getfield 46, 3) := by decide +kernel
theorem dX8_heap_34 : decode cX8_heap 34 = .ok (.getfield 200, 3) := by decide +kernel
theorem dX8_heap_37 : decode cX8_heap 37 = .ok (.iconst 1, 1) := by decide +kernel
theorem dX8_heap_38 : decode cX8_heap 38 = .ok (.isub, 1) := by decide +kernel
theorem dX8_heap_39 : decode cX8_heap 39 = .ok (.invokestatic 83, 3) := by decide +kernel
theorem dX8_heap_42 : decode cX8_heap 42 = .ok (.ifCond .eq 15, 3) := by decide +kernel
theorem dX8_heap_45 : decode cX8_heap 45 = .ok (.aload_n 0, 1) := by decide +kernel
theorem dX8_heap_46 : decode cX8_heap 46 = .ok (.getfield 46, 3) := by decide +kernel
theorem dX8_heap_49 : decode cX8_heap 49 = .ok (.getfield 203, 3) := by decide +kernel
theorem dX8_heap_52 : decode cX8_heap 52 = .ok (.iload_n 1, 1) := by decide +kernel
theorem dX8_heap_53 : decode cX8_heap 53 = .ok (.iaload, 1) := by decide +kernel
theorem dX8_heap_54 : decode cX8_heap 54 = .ok (.goto 4, 3) := by decide +kernel
theorem dX8_heap_57 : decode cX8_heap 57 = .ok (.iconst (-1), 1) := by decide +kernel
theorem dX8_heap_58 : decode cX8_heap 58 = .ok (.ireturn, 1) := by decide +kernel
set_option maxRecDepth 20000 in
theorem ggX8_strange_X0_layDown : GoodIn wsX8_strange wsX0_layDown := goodIn_sub (am_cons (List.mem_cons_of_mem _ (List.mem_append_left _ (List.mem_append_left _ (List.mem_append_left _ (List.mem_append_left _ (List.mem_append_left _ (List.mem_append_left _ (List.mem_of_getElem? (i := 7) rfl)))))))) (am_app (am_app (am_app (am_app (am_app (am_cons (List.mem_cons_of_mem _ (List.mem_append_left _ (List.mem_append_left _ (List.mem_append_left _ (List.mem_append_left _ (List.mem_append_left _ (List.mem_append_left _ (List.mem_of_getElem? (i := 8) rfl)))))))) (am_cons (List.mem_cons_of_mem _ (List.mem_append_left _ (List.mem_append_left _ (List.mem_append_left _ (List.mem_append_left _ (List.mem_append_left _ (List.mem_append_left _ (List.mem_of_getElem? (i := 9) rfl)))))))) (am_cons (List.mem_cons_of_mem _ (List.mem_append_left _ (List.mem_append_left _ (List.mem_append_left _ (List.mem_append_left _ (List.mem_append_left _ (List.mem_append_left _ (List.mem_of_getElem? (i := 10) rfl)))))))) (am_cons (List.mem_cons_of_mem _ (List.mem_append_left _ (List.mem_append_left _ (List.mem_append_left _ (List.mem_append_left _ (List.mem_append_left _ (List.mem_append_left _ (List.mem_of_getElem? (i := 11) rfl)))))))) (am_cons (List.mem_cons_of_mem _ (List.mem_append_left _ (List.mem_append_left _ (List.mem_append_left _ (List.mem_append_left _ (List.mem_append_left _ (List.mem_append_left _ (List.mem_of_getElem? (i := 6) rfl)))))))) (am_cons (List.mem_cons_of_mem _ (List.mem_append_left _ (List.mem_append_left _ (List.mem_append_left _ (List.mem_append_left _ (List.mem_append_left _ (List.mem_append_left _ (List.mem_of_getElem? (i := 12) rfl)))))))) (am_cons (List.mem_cons_of_mem _ (List.mem_append_left _ (List.mem_append_left _ (List.mem_append_left _ (List.mem_append_left _ (List.mem_append_left _ (List.mem_append_left _ (List.mem_of_getElem? (i := 13) rfl)))))))) (am_cons (List.mem_cons_of_mem _ (List.mem_append_left _ (List.mem_append_left _ (List.mem_append_left _ (List.mem_append_left _ (List.mem_append_left _ (List.mem_append_left _ (List.mem_of_getElem? (i := 14) rfl)))))))) (am_cons (List.mem_cons_of_mem _ (List.mem_append_left _ (List.mem_append_left _ (List.mem_append_left _ (List.mem_append_left _ (List.mem_append_left _ (List.mem_append_left _ (List.mem_of_getElem? (i := 15) rfl)))))))) (am_cons (List.mem_cons_of_mem _ (List.mem_append_left _ (List.mem_append_left _ (List.mem_append_left _ (List.mem_append_left _ (List.mem_append_left _ (List.mem_append_left _ (List.mem_of_getElem? (i := 16) rfl)))))))) (am_cons (List.mem_cons_of_mem _ (List.mem_append_left _ (List.mem_append_left _ (List.mem_append_left _ (List.mem_append_left _ (List.mem_append_left _ (List.mem_append_left _ (List.mem_of_getElem? (i := 17) rfl)))))))) (am_cons (List.mem_cons_of_mem _ (List.mem_append_left _ (List.mem_append_left _ (List.mem_append_left _ (List.mem_append_left _ (List.mem_append_left _ (List.mem_append_left _ (List.mem_of_getElem? (i := 18) rfl)))))))) (am_cons (List.mem_cons_of_mem _ (List.mem_append_left _ (List.mem_append_left _ (List.mem_append_left _ (List.mem_append_left _ (List.mem_append_left _ (List.mem_append_left _ (List.mem_of_getElem? (i := 19) rfl)))))))) (am_cons (List.mem_cons_of_mem _ (List.mem_append_left _ (List.mem_append_left _ (List.mem_append_left _ (List.mem_append_left _ (List.mem_append_left _ (List.mem_append_left _ (List.mem_of_getElem? (i := 20) rfl)))))))) (am_cons (List.mem_cons_of_mem _ (List.mem_append_left _ (List.mem_append_left _ (List.mem_append_left _ (List.mem_append_left _ (List.mem_append_left _ (List.mem_append_left _ (List.mem_of_getElem? (i := 21) rfl)))))))) (am_cons (List.mem_cons_of_mem _ (List.mem_append_left _ (List.mem_append_left _ (List.mem_append_left _ (List.mem_append_left _ (List.mem_append_left _ (List.mem_append_left _ (List.mem_of_getElem? (i := 22) rfl)))))))) (am_cons (List.mem_cons_of_mem _ (List.mem_append_left _ (List.mem_append_left _ (List.mem_append_left _ (List.mem_append_left _ (List.mem_append_left _ (List.mem_append_left _ (List.mem_of_getElem? (i := 23) rfl)))))))) (am_cons (List.mem_cons_of_mem _ (List.mem_append_left _ (List.mem_append_left _ (List.mem_append_left _ (List.mem_append_left _ (List.mem_append_left _ (List.mem_append_right _ (List.mem_append_left _ (List.mem_of_getElem? (i := 0) rfl))))))))) (am_cons (List.mem_cons_of_mem _ (List.mem_append_left _ (List.mem_append_left _ (List.mem_append_left _ (List.mem_append_left _ (List.mem_append_left _ (List.mem_append_right _ (List.mem_append_left _ (List.mem_of_getElem? (i := 1) rfl))))))))) (am_cons (List.mem_cons_of_mem _ (List.mem_append_left _ (List.mem_append_left _ (List.mem_append_left _ (List.mem_append_left _ (List.mem_append_left _ (List.mem_append_right _ (List.mem_append_left _ (List.mem_of_getElem? (i := 2) rfl))))))))) (am_cons (List.mem_cons_of_mem _ (List.mem_append_left _ (List.mem_append_left _ (List.mem_append_left _ (List.mem_append_left _ (List.mem_append_left _ (List.mem_append_right _ (List.mem_append_left _ (List.mem_of_getElem? (i := 3) rfl))))))))) (am_cons (List.mem_cons_of_mem _ (List.mem_append_left _ (List.mem_append_left _ (List.mem_append_left _ (List.mem_append_left _ (List.mem_append_left _ (List.mem_append_right _ (List.mem_append_left _ (List.mem_of_getElem? (i := 4) rfl))))))))) (am_cons (List.mem_cons_of_mem _ (List.mem_append_left _ (List.mem_append_left _ (List.mem_append_left _ (List.mem_append_left _ (List.mem_append_left _ (List.mem_append_right _ (List.mem_append_left _ (List.mem_of_getElem? (i := 5) rfl))))))))) (am_cons (List.mem_cons_of_mem _ (List.mem_append_left _ (List.mem_append_left _ (List.mem_append_left _ (List.mem_append_left _ (List.mem_append_left _ (List.mem_append_right _ (List.mem_append_left _ (List.mem_of_getElem? (i := 6) rfl))))))))) am_nil)))))))))))))))))))))))) (am_app (am_cons (List.mem_cons_of_mem _ (List.mem_append_left _ (List.mem_append_left _ (List.mem_append_left _ (List.mem_append_left _ (List.mem_append_left _ (List.mem_append_right _ (List.mem_append_left _ (List.mem_of_getElem? (i := 7) rfl))))))))) (am_cons (List.mem_cons_of_mem _ (List.mem_append_left _ (List.mem_append_left _ (List.mem_append_left _ (List.mem_append_left _ (List.mem_append_left _ (List.mem_append_right _ (List.mem_append_left _ (List.mem_of_getElem? (i := 8) rfl))))))))) (am_cons (List.mem_cons_of_mem _ (List.mem_append_left _ (List.mem_append_left _ (List.mem_append_left _ (List.mem_append_left _ (List.mem_append_left _ (List.mem_append_right _ (List.mem_append_left _ (List.mem_of_getElem? (i := 9) rfl))))))))) (am_cons (List.mem_cons_of_mem _ (List.mem_append_left _ (List.mem_append_left _ (List.mem_append_left _ (List.mem_append_left _ (List.mem_append_left _ (List.mem_append_right _ (List.mem_append_left _ (List.mem_of_getElem? (i := 10) rfl))))))))) (am_cons (List.mem_cons_of_mem _ (List.mem_append_left _ (List.mem_append_left _ (List.mem_append_left _ (List.mem_append_left _ (List.mem_append_left _ (List.mem_append_right _ (List.mem_append_left _ (List.mem_of_getElem? (i := 11) rfl))))))))) (am_cons (List.mem_cons_of_mem _ (List.mem_append_left _ (List.mem_append_left _ (List.mem_append_left _ (List.mem_append_left _ (List.mem_append_left _ (List.mem_append_right _ (List.mem_append_left _ (List.mem_of_getElem? (i := 12) rfl))))))))) (am_cons (List.mem_cons_of_mem _ (List.mem_append_left _ (List.mem_append_left _ (List.mem_append_left _ (List.mem_append_left _ (List.mem_append_left _ (List.mem_append_right _ (List.mem_append_left _ (List.mem_of_getElem? (i := 13) rfl))))))))) (am_cons (List.mem_cons_of_mem _ (List.mem_append_left _ (List.mem_append_left _ (List.mem_append_left _ (List.mem_append_left _ (List.mem_append_left _ (List.mem_append_right _ (List.mem_append_left _ (List.mem_of_getElem? (i := 14) rfl))))))))) (am_cons (List.mem_cons_of_mem _ (List.mem_append_left _ (List.mem_append_left _ (List.mem_append_left _ (List.mem_append_left _ (List.mem_append_left _ (List.mem_append_right _ (List.mem_append_left _ (List.mem_of_getElem? (i := 15) rfl))))))))) (am_cons (List.mem_cons_of_mem _ (List.mem_append_left _ (List.mem_append_left _ (List.mem_append_left _ (List.mem_append_left _ (List.mem_append_left _ (List.mem_append_right _ (List.mem_append_left _ (List.mem_of_getElem? (i := 16) rfl))))))))) (am_cons (List.mem_cons_of_mem _ (List.mem_append_left _ (List.mem_append_left _ (List.mem_append_left _ (List.mem_append_left _ (List.mem_append_left _ (List.mem_append_right _ (List.mem_append_left _ (List.mem_of_getElem? (i := 17) rfl))))))))) (am_cons (List.mem_cons_of_mem _ (List.mem_append_left _ (List.mem_append_left _ (List.mem_append_left _ (List.mem_append_left _ (List.mem_append_left _ (List.mem_append_right _ (List.mem_append_left _ (List.mem_of_getElem? (i := 18) rfl))))))))) (am_cons (List.mem_cons_of_mem _ (List.mem_append_left _ (List.mem_append_left _ (List.mem_append_left _ (List.mem_append_left _ (List.mem_append_left _ (List.mem_append_right _ (List.mem_append_left _ (List.mem_of_getElem? (i := 19) rfl))))))))) (am_cons (List.mem_cons_of_mem _ (List.mem_append_left _ (List.mem_append_left _ (List.mem_append_left _ (List.mem_append_left _ (List.mem_append_left _ (List.mem_append_right _ (List.mem_append_left _ (List.mem_of_getElem? (i := 20) rfl))))))))) (am_cons (List.mem_cons_of_mem _ (List.mem_append_left _ (List.mem_append_left _ (List.mem_append_left _ (List.mem_append_left _ (List.mem_append_left _ (List.mem_append_right _ (List.mem_append_left _ (List.mem_of_getElem? (i := 21) rfl))))))))) (am_cons (List.mem_cons_of_mem _ (List.mem_append_left _ (List.mem_append_left _ (List.mem_append_left _ (List.mem_append_left _ (List.mem_append_left _ (List.mem_append_right _ (List.mem_append_left _ (List.mem_of_getElem? (i := 22) rfl))))))))) (am_cons (List.mem_cons_of_mem _ (List.mem_append_left _ (List.mem_append_left _ (List.mem_append_left _ (List.mem_append_left _ (List.mem_append_left _ (List.mem_append_right _ (List.mem_append_left _ (List.mem_of_getElem? (i := 23) rfl))))))))) (am_cons (List.mem_cons_of_mem _ (List.mem_append_left _ (List.mem_append_left _ (List.mem_append_left _ (List.mem_append_left _ (List.mem_append_left _ (List.mem_append_right _ (List.mem_append_right _ (List.mem_append_left _ (List.mem_of_getElem? (i := 0) rfl)))))))))) (am_cons (List.mem_cons_of_mem _ (List.mem_append_left _ (List.mem_append_left _ (List.mem_append_left _ (List.mem_append_left _ (List.mem_append_left _ (List.mem_append_right _ (List.mem_append_right _ (List.mem_append_left _ (List.mem_of_getElem? (i := 1) rfl)))))))))) (am_cons (List.mem_cons_of_mem _ (List.mem_append_left _ (List.mem_append_left _ (List.mem_append_left _ (List.mem_append_left _ (List.mem_append_left _ (List.mem_append_right _ (List.mem_append_right _ (List.mem_append_left _ (List.mem_of_getElem? (i := 2) rfl)))))))))) (am_cons (List.mem_cons_of_mem _ (List.mem_append_left _ (List.mem_append_left _ (List.mem_append_left _ (List.mem_append_left _ (List.mem_append_left _ (List.mem_append_right _ (List.mem_append_right _ (List.mem_append_left _ (List.mem_of_getElem? (i := 3) rfl)))))))))) (am_cons (List.mem_cons_of_mem _ (List.mem_append_left _ (List.mem_append_left _ (List.mem_append_left _ (List.mem_append_left _ (List.mem_append_left _ (List.mem_append_right _ (List.mem_append_right _ (List.mem_append_left _ (List.mem_of_getElem? (i := 4) rfl)))))))))) (am_cons (List.mem_cons_of_mem _ (List.mem_append_left _ (List.mem_append_left _ (List.mem_append_left _ (List.mem_append_left _ (List.mem_append_left _ (List.mem_append_right _ (List.mem_append_right _ (List.mem_append_left _ (List.mem_of_getElem? (i := 5) rfl)))))))))) (am_cons (List.mem_cons_of_mem _ (List.mem_append_left _ (List.mem_append_left _ (List.mem_append_left _ (List.mem_append_left _ (List.mem_append_left _ (List.mem_append_right _ (List.mem_append_right _ (List.mem_append_left _ (List.mem_of_getElem? (i := 6) rfl)))))))))) am_nil)))))))))))))))))))))))) (am_cons (List.mem_cons_of_mem _ (List.mem_append_left _ (List.mem_append_left _ (List.mem_append_left _ (List.mem_append_left _ (List.mem_append_left _ (List.mem_append_right _ (List.mem_append_right _ (List.mem_append_left _ (List.mem_of_getElem? (i := 7) rfl)))))))))) (am_cons (List.mem_cons_of_mem _ (List.mem_append_left _ (List.mem_append_left _ (List.mem_append_left _ (List.mem_append_left _ (List.mem_append_left _ (List.mem_append_right _ (List.mem_append_right _ (List.mem_append_left _ (List.mem_of_getElem? (i := 8) rfl)))))))))) (am_cons (List.mem_cons_of_mem _ (List.mem_append_left _ (List.mem_append_left _ (List.mem_append_left _ (List.mem_append_left _ (List.mem_append_left _ (List.mem_append_right _ (List.mem_append_right _ (List.mem_append_left _ (List.mem_of_getElem? (i := 9) rfl)))))))))) (am_cons (List.mem_cons_of_mem _ (List.mem_append_left _ (List.mem_append_left _ (List.mem_append_left _ (List.mem_append_left _ (List.mem_append_left _ (List.mem_append_right _ (List.mem_append_right _ (List.mem_append_left _ (List.mem_of_getElem? (i := 10) rfl)))))))))) (am_cons (List.mem_cons_of_mem _ (List.mem_append_left _ (List.mem_append_left _ (List.mem_append_left _ (List.mem_append_left _ (List.mem_append_left _ (List.mem_append_right _ (List.mem_append_right _ (List.mem_append_left _ (List.mem_of_getElem? (i := 11) rfl)))))))))) (am_cons (List.mem_cons_of_mem _ (List.mem_append_left _ (List.mem_append_left _ (List.mem_append_left _ (List.mem_append_left _ (List.mem_append_left _ (List.mem_append_right _ (List.mem_append_right _ (List.mem_append_left _ (List.mem_of_getElem? (i := 12) rfl)))))))))) (am_cons (List.mem_cons_of_mem _ (List.mem_append_left _ (List.mem_append_left _ (List.mem_append_left _ (List.mem_append_left _ (List.mem_append_left _ (List.mem_append_right _ (List.mem_append_right _ (List.mem_append_left _ (List.mem_of_getElem? (i := 13) rfl)))))))))) (am_cons (List.mem_cons_of_mem _ (List.mem_append_left _ (List.mem_append_left _ (List.mem_append_left _ (List.mem_append_left _ (List.mem_append_left _ (List.mem_append_right _ (List.mem_append_right _ (List.mem_append_left _ (List.mem_of_getElem? (i := 14) rfl)))))))))) (am_cons (List.mem_cons_of_mem _ (List.mem_append_left _ (List.mem_append_left _ (List.mem_append_left _ (List.mem_append_left _ (List.mem_append_left _ (List.mem_append_right _ (List.mem_append_right _ (List.mem_append_left _ (List.mem_of_getElem? (i := 15) rfl)))))))))) (am_cons (List.mem_cons_of_mem _ (List.mem_append_left _ (List.mem_append_left _ (List.mem_append_left _ (List.mem_append_left _ (List.mem_append_left _ (List.mem_append_right _ (List.mem_append_right _ (List.mem_append_left _ (List.mem_of_getElem? (i := 16) rfl)))))))))) (am_cons (List.mem_cons_of_mem _ (List.mem_append_left _ (List.mem_append_left _ (List.mem_append_left _ (List.mem_append_left _ (List.mem_append_left _ (List.mem_append_right _ (List.mem_append_right _ (List.mem_append_left _ (List.mem_of_getElem? (i := 17) rfl)))))))))) (am_cons (List.mem_cons_of_mem _ (List.mem_append_left _ (List.mem_append_left _ (List.mem_append_left _ (List.mem_append_left _ (List.mem_append_left _ (List.mem_append_right _ (List.mem_append_right _ (List.mem_append_left _ (List.mem_of_getElem? (i := 18) rfl)))))))))) (am_cons (List.mem_cons_of_mem _ (List.mem_append_left _ (List.mem_append_left _ (List.mem_append_left _ (List.mem_append_left _ (List.mem_append_left _ (List.mem_append_right _ (List.mem_append_right _ (List.mem_append_left _ (List.mem_of_getElem? (i := 19) rfl)))))))))) (am_cons (List.mem_cons_of_mem _ (List.mem_append_left _ (List.mem_append_left _ (List.mem_append_left _ (List.mem_append_left _ (List.mem_append_left _ (List.mem_append_right _ (List.mem_append_right _ (List.mem_append_left _ (List.mem_of_getElem? (i := 20) rfl)))))))))) (am_cons (List.mem_cons_of_mem _ (List.mem_append_left _ (List.mem_append_left _ (List.mem_append_left _ (List.mem_append_left _ (List.mem_append_left _ (List.mem_append_right _ (List.mem_append_right _ (List.mem_append_left _ (List.mem_of_getElem? (i := 21) rfl)))))))))) (am_cons (List.mem_cons_of_mem _ (List.mem_append_left _ (List.mem_append_left _ (List.mem_append_left _ (List.mem_append_left _ (List.mem_append_left _ (List.mem_append_right _ (List.mem_append_right _ (List.mem_append_left _ (List.mem_of_getElem? (i := 22) rfl)))))))))) am_nil)))))))))))))))))) (fun _ h => List.mem_cons_of_mem _ (List.mem_append_left _ (List.mem_append_left _ (List.mem_append_left _ (List.mem_append_right _ (h))))))) (fun _ h => List.mem_cons_of_mem _ (List.mem_append_left _ (List.mem_append_left _ (List.mem_append_right _ (h)))))) (fun _ h => List.mem_cons_of_mem _ (List.mem_append_left _ (List.mem_append_right _ (h))))) (fun _ h => List.mem_cons_of_mem _ (List.mem_append_right _ (h))))) (by decide +kernel)
set_option maxRecDepth 20000 in
theorem gX8_strange_X0_layDown : GoodIn wsX8_strange (wsV RX8 196 RX0 yX0_layDown wsX0_layDown) := goodIn_app (goodIn_sub (am_cons (List.mem_cons_of_mem _ (List.mem_append_left _ (List.mem_append_left _ (List.mem_append_left _ (List.mem_append_left _ (List.mem_append_left _ (List.mem_append_left _ (List.mem_of_getElem? (i := 3) rfl)))))))) (am_cons (List.mem_cons_of_mem _ (List.mem_append_left _ (List.mem_append_left _ (List.mem_append_left _ (List.mem_append_left _ (List.mem_append_left _ (List.mem_append_left _ (List.mem_of_getElem? (i := 4) rfl)))))))) (am_cons (List.mem_cons_of_mem _ (List.mem_append_left _ (List.mem_append_left _ (List.mem_append_left _ (List.mem_append_left _ (List.mem_append_left _ (List.mem_append_left _ (List.mem_of_getElem? (i := 5) rfl)))))))) (am_cons (List.mem_cons_of_mem _ (List.mem_append_left _ (List.mem_append_left _ (List.mem_append_left _ (List.mem_append_left _ (List.mem_append_left _ (List.mem_append_left _ (List.mem_of_getElem? (i := 6) rfl)))))))) am_nil)))) (by decide +kernel)) ggX8_strange_X0_layDown
set_option maxRecDepth 20000 in
theorem ggX8_strange_X1_allBits : GoodIn wsX8_strange wsX1_allBits := goodIn_sub (am_cons (List.mem_cons_of_mem _ (List.mem_append_left _ (List.mem_append_left _ (List.mem_append_left _ (List.mem_append_left _ (List.mem_append_left _ (List.mem_append_right _ (List.mem_append_right _ (List.mem_append_right _ (List.mem_of_getElem? (i := 2) rfl)))))))))) (am_app (am_cons (List.mem_cons_of_mem _ (List.mem_append_left _ (List.mem_append_left _ (List.mem_append_left _ (List.mem_append_left _ (List.mem_append_left _ (List.mem_append_right _ (List.mem_append_left _ (List.mem_of_getElem? (i := 16) rfl))))))))) am_nil) (fun _ h => List.mem_cons_of_mem _ (List.mem_append_right _ (h))))) (by decide +kernel)
set_option maxRecDepth 20000 in
theorem gX8_strange_X1_allBits : GoodIn wsX8_strange (wsV RX8 206 RX1 yX1_allBits wsX1_allBits) := goodIn_app (goodIn_sub (am_cons (List.mem_cons_of_mem _ (List.mem_append_left _ (List.mem_append_left _ (List.mem_append_left _ (List.mem_append_left _ (List.mem_append_left _ (List.mem_append_right _ (List.mem_append_right _ (List.mem_append_left _ (List.mem_of_getElem? (i := 23) rfl)))))))))) (am_cons (List.mem_cons_of_mem _ (List.mem_append_left _ (List.mem_append_left _ (List.mem_append_left _ (List.mem_append_left _ (List.mem_append_left _ (List.mem_append_right _ (List.mem_append_right _ (List.mem_append_right _ (List.mem_of_getElem? (i := 0) rfl)))))))))) (am_cons (List.mem_cons_of_mem _ (List.mem_append_left _ (List.mem_append_left _ (List.mem_append_left _ (List.mem_append_left _ (List.mem_append_left _ (List.mem_append_right _ (List.mem_append_right _ (List.mem_append_right _ (List.mem_of_getElem? (i := 1) rfl)))))))))) (am_cons (List.mem_cons_of_mem _ (List.mem_append_left _ (List.mem_append_left _ (List.mem_append_left _ (List.mem_append_left _ (List.mem_append_left _ (List.mem_append_right _ (List.mem_append_left _ (List.mem_of_getElem? (i := 10) rfl))))))))) am_nil)))) (by decide +kernel)) ggX8_strange_X1_allBits
theorem dX8_strange_0 : decode cX8_strange 0 = .ok (.aload_n 0, 1) := by decide +kernel
theorem dX8_strange_1 : decode cX8_strange 1 = .ok (.getfield 46, 3) := by decide +kernel
theorem dX8_strange_4 : decode cX8_strange 4 = .ok (.aload_n 0, 1) := by decide +kernel
theorem dX8_strange_5 : decode cX8_strange 5 = .ok (.getfield 12, 3) := by decide +kernel
theorem dX8_strange_8 : decode cX8_strange 8 = .ok (.aload_n 0, 1) := by decide +kernel
theorem dX8_strange_9 : decode cX8_strange 9 = .ok (.getfield 39, 3) := by decide +kernel
theorem dX8_strange_12 : decode cX8_strange 12 = .ok (.invokevirtual 196, 3) := by decide +kernel
theorem dX8_strange_15 : decode cX8_strange 15 = .ok (.aload_n 0, 1) := by decide +kernel
theorem dX8_strange_16 : decode cX8_strange 16 = .ok (.getfield 39, 3) := by decide +kernel
theorem dX8_strange_19 : decode cX8_strange 19 = .ok (.invokevirtual 206, 3) := by decide +kernel
theorem dX8_strange_22 : decode cX8_strange 22 = .ok (.aload_n 0, 1) := by decide +kernel
theorem dX8_strange_23 : decode cX8_strange 23 = .ok (.getfield 46, 3) := by decide +kernel
theorem dX8_strange_26 : decode cX8_strange 26 = .ok (.getfield 209, 3) := by decide +kernel
theorem dX8_strange_29 : decode cX8_strange 29 = .ok (.iconst (-1), 1) := by decide +kernel
theorem dX8_strange_30 : decode cX8_strange 30 = .ok (.ixor, 1) := by decide +kernel
theorem dX8_strange_31 : decode cX8_strange 31 = .ok (.iand, 1) := by decide +kernel
theorem dX8_strange_32 : decode cX8_strange 32 = .ok (.ireturn, 1) := by decide +kernel
set_option maxRecDepth 20000 in
theorem ggX8_laws_X8_within : GoodIn wsX8_laws wsX8_within := goodIn_sub (am_cons (List.mem_cons_of_mem _ (List.mem_append_left _ (List.mem_of_getElem? (i := 6) rfl))) (am_nil)) (by decide +kernel)
set_option maxRecDepth 20000 in
theorem gX8_laws_X8_within : GoodIn wsX8_laws (va_wsS RX8 83 yX8_within wsX8_within) := goodIn_app (goodIn_sub (am_cons (List.mem_cons_of_mem _ (List.mem_append_left _ (List.mem_of_getElem? (i := 3) rfl))) (am_cons (List.mem_cons_of_mem _ (List.mem_append_left _ (List.mem_of_getElem? (i := 4) rfl))) (am_cons (List.mem_cons_of_mem _ (List.mem_append_left _ (List.mem_of_getElem? (i := 5) rfl))) am_nil))) (by decide +kernel)) ggX8_laws_X8_within
theorem dX8_laws_0 : decode cX8_laws 0 = .ok (.iload_n 1, 1) := by decide +kernel
theorem dX8_laws_1 : decode cX8_laws 1 = .ok (.iconst 1, 1) := by decide +kernel
theorem dX8_laws_2 : decode cX8_laws 2 = .ok (.sipush 1000, 3) := by decide +kernel
theorem dX8_laws_5 : decode cX8_laws 5 = .ok (.invokestatic 83, 3) := by decide +kernel
theorem dX8_laws_8 : decode cX8_laws 8 = .ok (.ifCond .eq 21, 3) := by decide +kernel
theorem dX8_laws_11 : decode cX8_laws 11 = .ok (.iload_n 2, 1) := by decide +kernel
theorem dX8_laws_12 : decode cX8_laws 12 = .ok (.iconst 1, 1) := by decide +kernel
theorem dX8_laws_13 : decode cX8_laws 13 = .ok (.iload_n 1, 1) := by decide +kernel
theorem dX8_laws_14 : decode cX8_laws 14 = .ok (.invokestatic 83, 3) := by decide +kernel
theorem dX8_laws_17 : decode cX8_laws 17 = .ok (.ifCond .eq 12, 3) := by decide +kernel
theorem dX8_laws_20 : decode cX8_laws 20 = .ok (.iload_n 3, 1) := by decide +kernel
theorem dX8_laws_21 : decode cX8_laws 21 = .ok (.iconst 1, 1) := by decide +kernel
theorem dX8_laws_22 : decode cX8_laws 22 = .ok (.iconst 4, 1) := by decide +kernel
theorem dX8_laws_23 : decode cX8_laws 23 = .ok (.invokestatic 83, 3) := by decide +kernel
theorem dX8_laws_26 : decode cX8_laws 26 = .ok (.ifCond .ne 5, 3) := by decide +kernel
theorem dX8_laws_29 : decode cX8_laws 29 = .ok (.iconst (-1), 1) := by decide +kernel
theorem dX8_laws_30 : decode cX8_laws 30 = .ok (.ireturn, 1) := by decide +kernel
theorem dX8_laws_31 : decode cX8_laws 31 = .ok (.aload_n 0, 1) := by decide +kernel
theorem dX8_laws_32 : decode cX8_laws 32 = .ok (.iload_n 1, 1) := by decide +kernel
theorem dX8_laws_33 : decode cX8_laws 33 = .ok (.putfield 56, 3) := by decide +kernel
theorem dX8_laws_36 : decode cX8_laws 36 = .ok (.aload_n 0, 1) := by decide +kernel
theorem dX8_laws_37 : decode cX8_laws 37 = .ok (.iload_n 2, 1) := by decide +kernel
theorem dX8_laws_38 : decode cX8_laws 38 = .ok (.putfield 60, 3) := by decide +kernel
theorem dX8_laws_41 : decode cX8_laws 41 = .ok (.aload_n 0, 1) := by decide +kernel
theorem dX8_laws_42 : decode cX8_laws 42 = .ok (.iload_n 3, 1) := by decide +kernel
theorem dX8_laws_43 : decode cX8_laws 43 = .ok (.putfield 63, 3) := by decide +kernel
theorem dX8_laws_46 : decode cX8_laws 46 = .ok (.iconst 1, 1) := by decide +kernel
theorem dX8_laws_47 : decode cX8_laws 47 = .ok (.ireturn, 1) := by decide +kernel
set_option maxRecDepth 20000 in
theorem ggX8_reading_X8_within : GoodIn wsX8_reading wsX8_within := goodIn_sub (am_cons (List.mem_cons_of_mem _ (List.mem_append_left _ (List.mem_append_left _ (List.mem_append_left _ (List.mem_of_getElem? (i := 8) rfl))))) (am_nil)) (by decide +kernel)
set_option maxRecDepth 20000 in
theorem gX8_reading_X8_within : GoodIn wsX8_reading (va_wsS RX8 83 yX8_within wsX8_within) := goodIn_app (goodIn_sub (am_cons (List.mem_cons_of_mem _ (List.mem_append_left _ (List.mem_append_left _ (List.mem_append_left _ (List.mem_of_getElem? (i := 5) rfl))))) (am_cons (List.mem_cons_of_mem _ (List.mem_append_left _ (List.mem_append_left _ (List.mem_append_left _ (List.mem_of_getElem? (i := 6) rfl))))) (am_cons (List.mem_cons_of_mem _ (List.mem_append_left _ (List.mem_append_left _ (List.mem_append_left _ (List.mem_of_getElem? (i := 7) rfl))))) am_nil))) (by decide +kernel)) ggX8_reading_X8_within
set_option maxRecDepth 20000 in
theorem ggX8_reading_X2_add : GoodIn wsX8_reading wsX2_add := goodIn_sub (am_cons (List.mem_cons_of_mem _ (List.mem_append_left _ (List.mem_append_left _ (List.mem_append_left _ (List.mem_of_getElem? (i := 13) rfl))))) (am_app (am_cons (List.mem_cons_of_mem _ (List.mem_append_left _ (List.mem_append_left _ (List.mem_append_left _ (List.mem_of_getElem? (i := 14) rfl))))) (am_cons (List.mem_cons_of_mem _ (List.mem_append_left _ (List.mem_append_left _ (List.mem_append_left _ (List.mem_of_getElem? (i := 15) rfl))))) (am_cons (List.mem_cons_of_mem _ (List.mem_append_left _ (List.mem_append_left _ (List.mem_append_left _ (List.mem_of_getElem? (i := 16) rfl))))) (am_cons (List.mem_cons_of_mem _ (List.mem_append_left _ (List.mem_append_left _ (List.mem_append_left _ (List.mem_of_getElem? (i := 17) rfl))))) (am_cons (List.mem_cons_of_mem _ (List.mem_append_left _ (List.mem_append_left _ (List.mem_append_left _ (List.mem_of_getElem? (i := 18) rfl))))) (am_cons (List.mem_cons_of_mem _ (List.mem_append_left _ (List.mem_append_left _ (List.mem_append_left _ (List.mem_of_getElem? (i := 19) rfl))))) (am_cons (List.mem_cons_of_mem _ (List.mem_append_left _ (List.mem_append_left _ (List.mem_append_left _ (List.mem_of_getElem? (i := 12) rfl))))) (am_cons (List.mem_cons_of_mem _ (List.mem_append_left _ (List.mem_append_left _ (List.mem_append_left _ (List.mem_of_getElem? (i := 20) rfl))))) (am_cons (List.mem_cons_of_mem _ (List.mem_append_left _ (List.mem_append_left _ (List.mem_append_left _ (List.mem_of_getElem? (i := 21) rfl))))) (am_cons (List.mem_cons_of_mem _ (List.mem_append_left _ (List.mem_append_left _ (List.mem_append_left _ (List.mem_of_getElem? (i := 22) rfl))))) (am_cons (List.mem_cons_of_mem _ (List.mem_append_left _ (List.mem_append_left _ (List.mem_append_left _ (List.mem_of_getElem? (i := 23) rfl))))) (am_cons (List.mem_cons_of_mem _ (List.mem_append_left _ (List.mem_append_left _ (List.mem_append_right _ (List.mem_of_getElem? (i := 0) rfl))))) am_nil)))))))))))) (fun _ h => List.mem_cons_of_mem _ (List.mem_append_right _ (h))))) (by decide +kernel)
set_option maxRecDepth 20000 in
theorem gX8_reading_X2_add : GoodIn wsX8_reading (wsV RX8 214 RX2 yX2_add wsX2_add) := goodIn_app (goodIn_sub (am_cons (List.mem_cons_of_mem _ (List.mem_append_left _ (List.mem_append_left _ (List.mem_append_left _ (List.mem_of_getElem? (i := 9) rfl))))) (am_cons (List.mem_cons_of_mem _ (List.mem_append_left _ (List.mem_append_left _ (List.mem_append_left _ (List.mem_of_getElem? (i := 10) rfl))))) (am_cons (List.mem_cons_of_mem _ (List.mem_append_left _ (List.mem_append_left _ (List.mem_append_left _ (List.mem_of_getElem? (i := 11) rfl))))) (am_cons (List.mem_cons_of_mem _ (List.mem_append_left _ (List.mem_append_left _ (List.mem_append_left _ (List.mem_of_getElem? (i := 12) rfl))))) am_nil)))) (by decide +kernel)) ggX8_reading_X2_add
set_option maxRecDepth 20000 in
theorem ggX8_reading_X2_judge : GoodIn wsX8_reading wsX2_judge := goodIn_sub (am_cons (List.mem_cons_of_mem _ (List.mem_append_left _ (List.mem_append_left _ (List.mem_append_right _ (List.mem_of_getElem? (i := 4) rfl))))) (am_app (am_cons (List.mem_cons_of_mem _ (List.mem_append_left _ (List.mem_append_left _ (List.mem_append_left _ (List.mem_of_getElem? (i := 14) rfl))))) (am_cons (List.mem_cons_of_mem _ (List.mem_append_left _ (List.mem_append_left _ (List.mem_append_right _ (List.mem_of_getElem? (i := 5) rfl))))) (am_cons (List.mem_cons_of_mem _ (List.mem_append_left _ (List.mem_append_left _ (List.mem_append_left _ (List.mem_of_getElem? (i := 15) rfl))))) (am_cons (List.mem_cons_of_mem _ (List.mem_append_left _ (List.mem_append_left _ (List.mem_append_right _ (List.mem_of_getElem? (i := 6) rfl))))) (am_cons (List.mem_cons_of_mem _ (List.mem_append_left _ (List.mem_append_left _ (List.mem_append_left _ (List.mem_of_getElem? (i := 16) rfl))))) (am_cons (List.mem_cons_of_mem _ (List.mem_append_left _ (List.mem_append_left _ (List.mem_append_right _ (List.mem_of_getElem? (i := 7) rfl))))) (am_cons (List.mem_cons_of_mem _ (List.mem_append_left _ (List.mem_append_left _ (List.mem_append_right _ (List.mem_of_getElem? (i := 8) rfl))))) (am_cons (List.mem_cons_of_mem _ (List.mem_append_left _ (List.mem_append_left _ (List.mem_append_right _ (List.mem_of_getElem? (i := 9) rfl))))) (am_cons (List.mem_cons_of_mem _ (List.mem_append_left _ (List.mem_append_left _ (List.mem_append_left _ (List.mem_of_getElem? (i := 12) rfl))))) (am_cons (List.mem_cons_of_mem _ (List.mem_append_left _ (List.mem_append_left _ (List.mem_append_right _ (List.mem_of_getElem? (i := 10) rfl))))) am_nil)))))))))) (fun _ h => List.mem_cons_of_mem _ (List.mem_append_right _ (h))))) (by decide +kernel)
set_option maxRecDepth 20000 in
theorem gX8_reading_X2_judge : GoodIn wsX8_reading (wsV RX8 217 RX2 yX2_judge wsX2_judge) := goodIn_app (goodIn_sub (am_cons (List.mem_cons_of_mem _ (List.mem_append_left _ (List.mem_append_left _ (List.mem_append_right _ (List.mem_of_getElem? (i := 1) rfl))))) (am_cons (List.mem_cons_of_mem _ (List.mem_append_left _ (List.mem_append_left _ (List.mem_append_right _ (List.mem_of_getElem? (i := 2) rfl))))) (am_cons (List.mem_cons_of_mem _ (List.mem_append_left _ (List.mem_append_left _ (List.mem_append_right _ (List.mem_of_getElem? (i := 3) rfl))))) (am_cons (List.mem_cons_of_mem _ (List.mem_append_left _ (List.mem_append_left _ (List.mem_append_left _ (List.mem_of_getElem? (i := 12) rfl))))) am_nil)))) (by decide +kernel)) ggX8_reading_X2_judge
theorem dX8_reading_0 : decode cX8_reading 0 = .ok (.iload_n 1, 1) := by decide +kernel
theorem dX8_reading_1 : decode cX8_reading 1 = .ok (.iconst 0, 1) := by decide +kernel
theorem dX8_reading_2 : decode cX8_reading 2 = .ok (.iconst 3, 1) := by decide +kernel
theorem dX8_reading_3 : decode cX8_reading 3 = .ok (.invokestatic 83, 3) := by decide +kernel
theorem dX8_reading_6 : decode cX8_reading 6 = .ok (.ifCond .eq 13, 3) := by decide +kernel
theorem dX8_reading_9 : decode cX8_reading 9 = .ok (.iload_n 2, 1) := by decide +kernel
theorem dX8_reading_10 : decode cX8_reading 10 = .ok (.iconst 0, 1) := by decide +kernel
theorem dX8_reading_11 : decode cX8_reading 11 = .ok (.ldc 212, 2) := by decide +kernel
theorem dX8_reading_13 : decode cX8_reading 13 = .ok (.invokestatic 83, 3) := by decide +kernel
theorem dX8_reading_16 : decode cX8_reading 16 = .ok (.ifCond .ne 5, 3) := by decide +kernel
theorem dX8_reading_19 : decode cX8_reading 19 = .ok (.iconst (-1), 1) := by decide +kernel
theorem dX8_reading_20 : decode cX8_reading 20 = .ok (.ireturn, 1) := by decide +kernel
theorem dX8_reading_21 : decode cX8_reading 21 = .ok (.aload_n 0, 1) := by decide +kernel
theorem dX8_reading_22 : decode cX8_reading 22 = .ok (.getfield 52, 3) := by decide +kernel
theorem dX8_reading_25 : decode cX8_reading 25 = .ok (.iload_n 1, 1) := by decide +kernel
theorem dX8_reading_26 : decode cX8_reading 26 = .ok (.aaload, 1) := by decide +kernel
theorem dX8_reading_27 : decode cX8_reading 27 = .ok (.astore_n 3, 1) := by decide +kernel
theorem dX8_reading_28 : decode cX8_reading 28 = .ok (.aload_n 3, 1) := by decide +kernel
theorem dX8_reading_29 : decode cX8_reading 29 = .ok (.getfield 213, 3) := by decide +kernel
theorem dX8_reading_32 : decode cX8_reading 32 = .ok (.sipush 200, 3) := by decide +kernel
theorem dX8_reading_35 : decode cX8_reading 35 = .ok (.if_icmp .lt 6, 3) := by decide +kernel
theorem dX8_reading_38 : decode cX8_reading 38 = .ok (.bipush (-3), 2) := by decide +kernel
theorem dX8_reading_40 : decode cX8_reading 40 = .ok (.ireturn, 1) := by decide +kernel
theorem dX8_reading_41 : decode cX8_reading 41 = .ok (.aload_n 3, 1) := by decide +kernel
theorem dX8_reading_42 : decode cX8_reading 42 = .ok (.iload_n 2, 1) := by decide +kernel
theorem dX8_reading_43 : decode cX8_reading 43 = .ok (.invokevirtual 214, 3) := by decide +kernel
theorem dX8_reading_46 : decode cX8_reading 46 = .ok (.aload_n 3, 1) := by decide +kernel
theorem dX8_reading_47 : decode cX8_reading 47 = .ok (.aload_n 0, 1) := by decide +kernel
theorem dX8_reading_48 : decode cX8_reading 48 = .ok (.getfield 56, 3) := by decide +kernel
theorem dX8_reading_51 : decode cX8_reading 51 = .ok (.aload_n 0, 1) := by decide +kernel
theorem dX8_reading_52 : decode cX8_reading 52 = .ok (.getfield 60, 3) := by decide +kernel
theorem dX8_reading_55 : decode cX8_reading 55 = .ok (.aload_n 0, 1) := by decide +kernel
theorem dX8_reading_56 : decode cX8_reading 56 = .ok (.getfield 63, 3) := by decide +kernel
theorem dX8_reading_59 : decode cX8_reading 59 = .ok (.invokevirtual 217, 3) := by decide +kernel
theorem dX8_reading_62 : decode cX8_reading 62 = .ok (.aload_n 3, 1) := by decide +kernel
theorem dX8_reading_63 : decode cX8_reading 63 = .ok (.getfield 213, 3) := by decide +kernel
theorem dX8_reading_66 : decode cX8_reading 66 = .ok (.ireturn, 1) := by decide +kernel
set_option maxRecDepth 20000 in
theorem ggX8_baseline_X8_within : GoodIn wsX8_baseline wsX8_within := goodIn_sub (am_cons (List.mem_cons_of_mem _ (List.mem_append_left _ (List.mem_append_left _ (List.mem_of_getElem? (i := 4) rfl)))) (am_nil)) (by decide +kernel)
set_option maxRecDepth 20000 in
theorem gX8_baseline_X8_within : GoodIn wsX8_baseline (va_wsS RX8 83 yX8_within wsX8_within) := goodIn_app (goodIn_sub (am_cons (List.mem_cons_of_mem _ (List.mem_append_left _ (List.mem_append_left _ (List.mem_of_getElem? (i := 1) rfl)))) (am_cons (List.mem_cons_of_mem _ (List.mem_append_left _ (List.mem_append_left _ (List.mem_of_getElem? (i := 2) rfl)))) (am_cons (List.mem_cons_of_mem _ (List.mem_append_left _ (List.mem_append_left _ (List.mem_of_getElem? (i := 3) rfl)))) am_nil))) (by decide +kernel)) ggX8_baseline_X8_within
theorem dX8_baseline_0 : decode cX8_baseline 0 = .ok (.iload_n 1, 1) := by decide +kernel
theorem dX8_baseline_1 : decode cX8_baseline 1 = .ok (.iconst 0, 1) := by decide +kernel
theorem dX8_baseline_2 : decode cX8_baseline 2 = .ok (.iconst 3, 1) := by decide +kernel
theorem dX8_baseline_3 : decode cX8_baseline 3 = .ok (.invokestatic 83, 3) := by decide +kernel
theorem dX8_baseline_6 : decode cX8_baseline 6 = .ok (.ifCond .ne 5, 3) := by decide +kernel
theorem dX8_baseline_9 : decode cX8_baseline 9 = .ok (.iconst (-1), 1) := by decide +kernel
theorem dX8_baseline_10 : decode cX8_baseline 10 = .ok (.ireturn, 1) := by decide +kernel
theorem dX8_baseline_11 : decode cX8_baseline 11 = .ok (.aload_n 0, 1) := by decide +kernel
theorem dX8_baseline_12 : decode cX8_baseline 12 = .ok (.getfield 52, 3) := by decide +kernel
theorem dX8_baseline_15 : decode cX8_baseline 15 = .ok (.iload_n 1, 1) := by decide +kernel
theorem dX8_baseline_16 : decode cX8_baseline 16 = .ok (.aaload, 1) := by decide +kernel
theorem dX8_baseline_17 : decode cX8_baseline 17 = .ok (.getfield 213, 3) := by decide +kernel
theorem dX8_baseline_20 : decode cX8_baseline 20 = .ok (.iconst 5, 1) := by decide +kernel
theorem dX8_baseline_21 : decode cX8_baseline 21 = .ok (.if_icmp .ge 8, 3) := by decide +kernel
theorem dX8_baseline_24 : decode cX8_baseline 24 = .ok (.bipush (-4), 2) := by decide +kernel
theorem dX8_baseline_26 : decode cX8_baseline 26 = .ok (.goto 12, 3) := by decide +kernel
theorem dX8_baseline_29 : decode cX8_baseline 29 = .ok (.aload_n 0, 1) := by decide +kernel
theorem dX8_baseline_30 : decode cX8_baseline 30 = .ok (.getfield 52, 3) := by decide +kernel
theorem dX8_baseline_33 : decode cX8_baseline 33 = .ok (.iload_n 1, 1) := by decide +kernel
theorem dX8_baseline_34 : decode cX8_baseline 34 = .ok (.aaload, 1) := by decide +kernel
theorem dX8_baseline_35 : decode cX8_baseline 35 = .ok (.getfield 220, 3) := by decide +kernel
theorem dX8_baseline_38 : decode cX8_baseline 38 = .ok (.ireturn, 1) := by decide +kernel
set_option maxRecDepth 20000 in
theorem ggX8_warned_X8_within : GoodIn wsX8_warned wsX8_within := goodIn_sub (am_cons (List.mem_cons_of_mem _ (List.mem_append_left _ (List.mem_append_left _ (List.mem_of_getElem? (i := 4) rfl)))) (am_nil)) (by decide +kernel)
set_option maxRecDepth 20000 in
theorem gX8_warned_X8_within : GoodIn wsX8_warned (va_wsS RX8 83 yX8_within wsX8_within) := goodIn_app (goodIn_sub (am_cons (List.mem_cons_of_mem _ (List.mem_append_left _ (List.mem_append_left _ (List.mem_of_getElem? (i := 1) rfl)))) (am_cons (List.mem_cons_of_mem _ (List.mem_append_left _ (List.mem_append_left _ (List.mem_of_getElem? (i := 2) rfl)))) (am_cons (List.mem_cons_of_mem _ (List.mem_append_left _ (List.mem_append_left _ (List.mem_of_getElem? (i := 3) rfl)))) am_nil))) (by decide +kernel)) ggX8_warned_X8_within
theorem dX8_warned_0 : decode cX8_warned 0 = .ok (.iload_n 1, 1) := by decide +kernel
theorem dX8_warned_1 : decode cX8_warned 1 = .ok (.iconst 0, 1) := by decide +kernel
theorem dX8_warned_2 : decode cX8_warned 2 = .ok (.iconst 3, 1) := by decide +kernel
theorem dX8_warned_3 : decode cX8_warned 3 = .ok (.invokestatic 83, 3) := by decide +kernel
theorem dX8_warned_6 : decode cX8_warned 6 = .ok (.ifCond .ne 5, 3) := by decide +kernel
theorem dX8_warned_9 : decode cX8_warned 9 = .ok (.iconst (-1), 1) := by decide +kernel
theorem dX8_warned_10 : decode cX8_warned 10 = .ok (.ireturn, 1) := by decide +kernel
theorem dX8_warned_11 : decode cX8_warned 11 = .ok (.aload_n 0, 1) := by decide +kernel
theorem dX8_warned_12 : decode cX8_warned 12 = .ok (.getfield 52, 3) := by decide +kernel
theorem dX8_warned_15 : decode cX8_warned 15 = .ok (.iload_n 1, 1) := by decide +kernel
theorem dX8_warned_16 : decode cX8_warned 16 = .ok (.aaload, 1) := by decide +kernel
theorem dX8_warned_17 : decode cX8_warned 17 = .ok (.getfield 223, 3) := by decide +kernel
theorem dX8_warned_20 : decode cX8_warned 20 = .ok (.ifCond .eq 7, 3) := by decide +kernel
theorem dX8_warned_23 : decode cX8_warned 23 = .ok (.iconst 1, 1) := by decide +kernel
theorem dX8_warned_24 : decode cX8_warned 24 = .ok (.goto 4, 3) := by decide +kernel
theorem dX8_warned_27 : decode cX8_warned 27 = .ok (.iconst 0, 1) := by decide +kernel
theorem dX8_warned_28 : decode cX8_warned 28 = .ok (.ireturn, 1) := by decide +kernel
set_option maxRecDepth 20000 in
theorem ggX8_repair_X2_clear : GoodIn wsX8_repair wsX2_clear := goodIn_sub (am_cons (List.mem_cons_of_mem _ (List.mem_append_left _ (List.mem_append_left _ (List.mem_of_getElem? (i := 5) rfl)))) (am_app (am_cons (List.mem_cons_of_mem _ (List.mem_append_left _ (List.mem_append_left _ (List.mem_of_getElem? (i := 6) rfl)))) (am_cons (List.mem_cons_of_mem _ (List.mem_append_left _ (List.mem_append_left _ (List.mem_of_getElem? (i := 7) rfl)))) am_nil)) (fun _ h => List.mem_cons_of_mem _ (List.mem_append_right _ (h))))) (by decide +kernel)
set_option maxRecDepth 20000 in
theorem gX8_repair_X2_clear : GoodIn wsX8_repair (wsV RX8 226 RX2 yX2_clear wsX2_clear) := goodIn_app (goodIn_sub (am_cons (List.mem_cons_of_mem _ (List.mem_append_left _ (List.mem_append_left _ (List.mem_of_getElem? (i := 1) rfl)))) (am_cons (List.mem_cons_of_mem _ (List.mem_append_left _ (List.mem_append_left _ (List.mem_of_getElem? (i := 2) rfl)))) (am_cons (List.mem_cons_of_mem _ (List.mem_append_left _ (List.mem_append_left _ (List.mem_of_getElem? (i := 3) rfl)))) (am_cons (List.mem_cons_of_mem _ (List.mem_append_left _ (List.mem_append_left _ (List.mem_of_getElem? (i := 4) rfl)))) am_nil)))) (by decide +kernel)) ggX8_repair_X2_clear
theorem dX8_repair_0 : decode cX8_repair 0 = .ok (.iconst 0, 1) := by decide +kernel
theorem dX8_repair_1 : decode cX8_repair 1 = .ok (.istore_n 1, 1) := by decide +kernel
theorem dX8_repair_2 : decode cX8_repair 2 = .ok (.iconst 0, 1) := by decide +kernel
theorem dX8_repair_3 : decode cX8_repair 3 = .ok (.istore_n 2, 1) := by decide +kernel
theorem dX8_repair_4 : decode cX8_repair 4 = .ok (.iload_n 2, 1) := by decide +kernel
theorem dX8_repair_5 : decode cX8_repair 5 = .ok (.aload_n 0, 1) := by decide +kernel
theorem dX8_repair_6 : decode cX8_repair 6 = .ok (.getfield 52, 3) := by decide +kernel
theorem dX8_repair_9 : decode cX8_repair 9 = .ok (.arraylength, 1) := by decide +kernel
theorem dX8_repair_10 : decode cX8_repair 10 = .ok (.if_icmp .ge 33, 3) := by decide +kernel
theorem dX8_repair_13 : decode cX8_repair 13 = .ok (.aload_n 0, 1) := by decide +kernel
theorem dX8_repair_14 : decode cX8_repair 14 = .ok (.getfield 52, 3) := by decide +kernel
theorem dX8_repair_17 : decode cX8_repair 17 = .ok (.iload_n 2, 1) := by decide +kernel
theorem dX8_repair_18 : decode cX8_repair 18 = .ok (.aaload, 1) := by decide +kernel
theorem dX8_repair_19 : decode cX8_repair 19 = .ok (.getfield 223, 3) := by decide +kernel
theorem dX8_repair_22 : decode cX8_repair 22 = .ok (.ifCond .eq 6, 3) := by decide +kernel
theorem dX8_repair_25 : decode cX8_repair 25 = .ok (.iinc 1 1, 3) := by decide +kernel
theorem dX8_repair_28 : decode cX8_repair 28 = .ok (.aload_n 0, 1) := by decide +kernel
theorem dX8_repair_29 : decode cX8_repair 29 = .ok (.getfield 52, 3) := by decide +kernel
theorem dX8_repair_32 : decode cX8_repair 32 = .ok (.iload_n 2, 1) := by decide +kernel
theorem dX8_repair_33 : decode cX8_repair 33 = .ok (.aaload, 1) := by decide +kernel
theorem dX8_repair_34 : decode cX8_repair 34 = .ok (.invokevirtual 226, 3) := by decide +kernel
theorem dX8_repair_37 : decode cX8_repair 37 = .ok (.iinc 2 1, 3) := by decide +kernel
theorem dX8_repair_40 : decode cX8_repair 40 = .ok (.goto (-36), 3) := by decide +kernel
theorem dX8_repair_43 : decode cX8_repair 43 = .ok (.iload_n 1, 1) := by decide +kernel
theorem dX8_repair_44 : decode cX8_repair 44 = .ok (.ireturn, 1) := by decide +kernel
theorem dX8_within_0 : decode cX8_within 0 = .ok (.iload_n 0, 1) := by decide +kernel
theorem dX8_within_1 : decode cX8_within 1 = .ok (.iload_n 1, 1) := by decide +kernel
theorem dX8_within_2 : decode cX8_within 2 = .ok (.if_icmp .lt 12, 3) := by decide +kernel
theorem dX8_within_5 : decode cX8_within 5 = .ok (.iload_n 0, 1) := by decide +kernel
theorem dX8_within_6 : decode cX8_within 6 = .ok (.iload_n 2, 1) := by decide +kernel
theorem dX8_within_7 : decode cX8_within 7 = .ok (.if_icmp .gt 7, 3) := by decide +kernel
theorem dX8_within_10 : decode cX8_within 10 = .ok (.iconst 1, 1) := by decide +kernel
theorem dX8_within_11 : decode cX8_within 11 = .ok (.goto 4, 3) := by decide +kernel
theorem dX8_within_14 : decode cX8_within 14 = .ok (.iconst 0, 1) := by decide +kernel
theorem dX8_within_15 : decode cX8_within 15 = .ok (.ireturn, 1) := by decide +kernel
theorem dX8_commonDivisor_0 : decode cX8_commonDivisor 0 = .ok (.lload_n 0, 1) := by decide +kernel
theorem dX8_commonDivisor_1 : decode cX8_commonDivisor 1 = .ok (.lstore 4, 2) := by decide +kernel
theorem dX8_commonDivisor_3 : decode cX8_commonDivisor 3 = .ok (.lload_n 2, 1) := by decide +kernel
theorem dX8_commonDivisor_4 : decode cX8_commonDivisor 4 = .ok (.lstore 6, 2) := by decide +kernel
theorem dX8_commonDivisor_6 : decode cX8_commonDivisor 6 = .ok (.iconst 0, 1) := by decide +kernel
theorem dX8_commonDivisor_7 : decode cX8_commonDivisor 7 = .ok (.istore 8, 2) := by decide +kernel
theorem dX8_commonDivisor_9 : decode cX8_commonDivisor 9 = .ok (.iload 8, 2) := by decide +kernel
theorem dX8_commonDivisor_11 : decode cX8_commonDivisor 11 = .ok (.bipush 100, 2) := by decide +kernel
theorem dX8_commonDivisor_13 : decode cX8_commonDivisor 13 = .ok (.if_icmp .ge 31, 3) := by decide +kernel
theorem dX8_commonDivisor_16 : decode cX8_commonDivisor 16 = .ok (.lload 6, 2) := by decide +kernel
theorem dX8_commonDivisor_18 : decode cX8_commonDivisor 18 = .ok (.lconst 0, 1) := by decide +kernel
theorem dX8_commonDivisor_19 : decode cX8_commonDivisor 19 = .ok (.lcmp, 1) := by decide +kernel
theorem dX8_commonDivisor_20 : decode cX8_commonDivisor 20 = .ok (.ifCond .eq 24, 3) := by decide +kernel
theorem dX8_commonDivisor_23 : decode cX8_commonDivisor 23 = .ok (.lload 4, 2) := by decide +kernel
theorem dX8_commonDivisor_25 : decode cX8_commonDivisor 25 = .ok (.lload 6, 2) := by decide +kernel
theorem dX8_commonDivisor_27 : decode cX8_commonDivisor 27 = .ok (.lrem, 1) := by decide +kernel
theorem dX8_commonDivisor_28 : decode cX8_commonDivisor 28 = .ok (.lstore 9, 2) := by decide +kernel
theorem dX8_commonDivisor_30 : decode cX8_commonDivisor 30 = .ok (.lload 6, 2) := by decide +kernel
theorem dX8_commonDivisor_32 : decode cX8_commonDivisor 32 = .ok (.lstore 4, 2) := by decide +kernel
theorem dX8_commonDivisor_34 : decode cX8_commonDivisor 34 = .ok (.lload 9, 2) := by decide +kernel
theorem dX8_commonDivisor_36 : decode cX8_commonDivisor 36 = .ok (.lstore 6, 2) := by decide +kernel
theorem dX8_commonDivisor_38 : decode cX8_commonDivisor 38 = .ok (.iinc 8 1, 3) := by decide +kernel
theorem dX8_commonDivisor_41 : decode cX8_commonDivisor 41 = .ok (.goto (-32), 3) := by decide +kernel
theorem dX8_commonDivisor_44 : decode cX8_commonDivisor 44 = .ok (.lconst 1, 1) := by decide +kernel
theorem dX8_commonDivisor_45 : decode cX8_commonDivisor 45 = .ok (.lload 4, 2) := by decide +kernel
theorem dX8_commonDivisor_47 : decode cX8_commonDivisor 47 = .ok (.invokestatic 228, 3) := by decide +kernel
theorem dX8_commonDivisor_50 : decode cX8_commonDivisor 50 = .ok (.lreturn, 1) := by decide +kernel
set_option maxRecDepth 20000 in
theorem ggX8_cosine_J9_floorMod_7cf53 : GoodIn wsX8_cosine wsJ9_floorMod_7cf53 := goodIn_sub (am_cons (List.mem_cons_of_mem _ (List.mem_of_getElem? (i := 4) rfl)) (am_nil)) (by decide +kernel)
set_option maxRecDepth 20000 in
theorem gX8_cosine_J9_floorMod_7cf53 : GoodIn wsX8_cosine (va_wsS RX8 234 yJ9_floorMod_7cf53 wsJ9_floorMod_7cf53) := goodIn_app (goodIn_sub (am_cons (List.mem_cons_of_mem _ (List.mem_of_getElem? (i := 1) rfl)) (am_cons (List.mem_cons_of_mem _ (List.mem_of_getElem? (i := 2) rfl)) (am_cons (List.mem_cons_of_mem _ (List.mem_of_getElem? (i := 3) rfl)) am_nil))) (by decide +kernel)) ggX8_cosine_J9_floorMod_7cf53
theorem dX8_cosine_0 : decode cX8_cosine 0 = .ok (.iload_n 0, 1) := by decide +kernel
theorem dX8_cosine_1 : decode cX8_cosine 1 = .ok (.bipush 32, 2) := by decide +kernel
theorem dX8_cosine_3 : decode cX8_cosine 3 = .ok (.invokestatic 234, 3) := by decide +kernel
theorem dX8_cosine_6 : decode cX8_cosine 6 = .ok (.istore_n 1, 1) := by decide +kernel
theorem dX8_cosine_7 : decode cX8_cosine 7 = .ok (.iload_n 1, 1) := by decide +kernel
theorem dX8_cosine_8 : decode cX8_cosine 8 = .ok (.bipush 16, 2) := by decide +kernel
theorem dX8_cosine_10 : decode cX8_cosine 10 = .ok (.if_icmp .le 10, 3) := by decide +kernel
theorem dX8_cosine_13 : decode cX8_cosine 13 = .ok (.bipush 32, 2) := by decide +kernel
theorem dX8_cosine_15 : decode cX8_cosine 15 = .ok (.iload_n 1, 1) := by decide +kernel
theorem dX8_cosine_16 : decode cX8_cosine 16 = .ok (.isub, 1) := by decide +kernel
theorem dX8_cosine_17 : decode cX8_cosine 17 = .ok (.goto 4, 3) := by decide +kernel
theorem dX8_cosine_20 : decode cX8_cosine 20 = .ok (.iload_n 1, 1) := by decide +kernel
theorem dX8_cosine_21 : decode cX8_cosine 21 = .ok (.istore_n 2, 1) := by decide +kernel
theorem dX8_cosine_22 : decode cX8_cosine 22 = .ok (.iload_n 2, 1) := by decide +kernel
theorem dX8_cosine_23 : decode cX8_cosine 23 = .ok (.bipush 8, 2) := by decide +kernel
theorem dX8_cosine_25 : decode cX8_cosine 25 = .ok (.if_icmp .le 15, 3) := by decide +kernel
theorem dX8_cosine_28 : decode cX8_cosine 28 = .ok (.getstatic 237, 3) := by decide +kernel
theorem dX8_cosine_31 : decode cX8_cosine 31 = .ok (.bipush 16, 2) := by decide +kernel
theorem dX8_cosine_33 : decode cX8_cosine 33 = .ok (.iload_n 2, 1) := by decide +kernel
theorem dX8_cosine_34 : decode cX8_cosine 34 = .ok (.isub, 1) := by decide +kernel
theorem dX8_cosine_35 : decode cX8_cosine 35 = .ok (.iaload, 1) := by decide +kernel
theorem dX8_cosine_36 : decode cX8_cosine 36 = .ok (.ineg, 1) := by decide +kernel
theorem dX8_cosine_37 : decode cX8_cosine 37 = .ok (.goto 8, 3) := by decide +kernel
theorem dX8_cosine_40 : decode cX8_cosine 40 = .ok (.getstatic 237, 3) := by decide +kernel
theorem dX8_cosine_43 : decode cX8_cosine 43 = .ok (.iload_n 2, 1) := by decide +kernel
theorem dX8_cosine_44 : decode cX8_cosine 44 = .ok (.iaload, 1) := by decide +kernel
theorem dX8_cosine_45 : decode cX8_cosine 45 = .ok (.ireturn, 1) := by decide +kernel
theorem dX9_in_0 : decode cX9_in 0 = .ok (.lload_n 0, 1) := by decide +kernel
theorem dX9_in_1 : decode cX9_in 1 = .ok (.lload_n 2, 1) := by decide +kernel
theorem dX9_in_2 : decode cX9_in 2 = .ok (.lcmp, 1) := by decide +kernel
theorem dX9_in_3 : decode cX9_in 3 = .ok (.ifCond .lt 14, 3) := by decide +kernel
theorem dX9_in_6 : decode cX9_in 6 = .ok (.lload_n 0, 1) := by decide +kernel
theorem dX9_in_7 : decode cX9_in 7 = .ok (.lload 4, 2) := by decide +kernel
theorem dX9_in_9 : decode cX9_in 9 = .ok (.lcmp, 1) := by decide +kernel
theorem dX9_in_10 : decode cX9_in 10 = .ok (.ifCond .gt 7, 3) := by decide +kernel
theorem dX9_in_13 : decode cX9_in 13 = .ok (.iconst 1, 1) := by decide +kernel
theorem dX9_in_14 : decode cX9_in 14 = .ok (.goto 4, 3) := by decide +kernel
theorem dX9_in_17 : decode cX9_in 17 = .ok (.iconst 0, 1) := by decide +kernel
theorem dX9_in_18 : decode cX9_in 18 = .ok (.ireturn, 1) := by decide +kernel
theorem dX9_init_0 : decode cX9_init 0 = .ok (.aload_n 0, 1) := by decide +kernel
theorem dX9_init_1 : decode cX9_init 1 = .ok (.invokespecial 1, 3) := by decide +kernel
theorem dX9_init_4 : decode cX9_init 4 = .ok (.aload_n 0, 1) := by decide +kernel
theorem dX9_init_5 : decode cX9_init 5 = .ok (.iconst 1, 1) := by decide +kernel
theorem dX9_init_6 : decode cX9_init 6 = .ok (.putfield 7, 3) := by decide +kernel
theorem dX9_init_9 : decode cX9_init 9 = .ok (.aload_n 0, 1) := by decide +kernel
theorem dX9_init_10 : decode cX9_init 10 = .ok (.iconst 4, 1) := by decide +kernel
theorem dX9_init_11 : decode cX9_init 11 = .ok (.newarray .long, 2) := by decide +kernel
theorem dX9_init_13 : decode cX9_init 13 = .ok (.putfield 13, 3) := by decide +kernel
theorem dX9_init_16 : decode cX9_init 16 = .ok (.aload_n 0, 1) := by decide +kernel
theorem dX9_init_17 : decode cX9_init 17 = .ok (.iconst 4, 1) := by decide +kernel
theorem dX9_init_18 : decode cX9_init 18 = .ok (.newarray .long, 2) := by decide +kernel
theorem dX9_init_20 : decode cX9_init 20 = .ok (.putfield 17, 3) := by decide +kernel
theorem dX9_init_23 : decode cX9_init 23 = .ok (.aload_n 0, 1) := by decide +kernel
theorem dX9_init_24 : decode cX9_init 24 = .ok (.iconst 4, 1) := by decide +kernel
theorem dX9_init_25 : decode cX9_init 25 = .ok (.newarray .int, 2) := by decide +kernel
theorem dX9_init_27 : decode cX9_init 27 = .ok (.putfield 20, 3) := by decide +kernel
theorem dX9_init_30 : decode cX9_init 30 = .ok (.aload_n 0, 1) := by decide +kernel
theorem dX9_init_31 : decode cX9_init 31 = .ok (.bipush 8, 2) := by decide +kernel
theorem dX9_init_33 : decode cX9_init 33 = .ok (.newarray .int, 2) := by decide +kernel
theorem dX9_init_35 : decode cX9_init 35 = .ok (.putfield 24, 3) := by decide +kernel
theorem dX9_init_38 : decode cX9_init 38 = .ok (.aload_n 0, 1) := by decide +kernel
theorem dX9_init_39 : decode cX9_init 39 = .ok (.bipush 8, 2) := by decide +kernel
theorem dX9_init_41 : decode cX9_init 41 = .ok (.newarray .int, 2) := by decide +kernel
theorem dX9_init_43 : decode cX9_init 43 = .ok (.putfield 27, 3) := by decide +kernel
theorem dX9_init_46 : decode cX9_init 46 = .ok (.aload_n 0, 1) := by decide +kernel
theorem dX9_init_47 : decode cX9_init 47 = .ok (.bipush 8, 2) := by decide +kernel
theorem dX9_init_49 : decode cX9_init 49 = .ok (.newarray .int, 2) := by decide +kernel
theorem dX9_init_51 : decode cX9_init 51 = .ok (.putfield 30, 3) := by decide +kernel
theorem dX9_init_54 : decode cX9_init 54 = .ok (.aload_n 0, 1) := by decide +kernel
theorem dX9_init_55 : decode cX9_init 55 = .ok (.bipush 8, 2) := by decide +kernel
theorem dX9_init_57 : decode cX9_init 57 = .ok (.newarray .int, 2) := by decide +kernel
theorem dX9_init_59 : decode cX9_init 59 = .ok (.putfield 33, 3) := by decide +kernel
theorem dX9_init_62 : decode cX9_init 62 = .ok (.aload_n 0, 1) := by decide +kernel
theorem dX9_init_63 : decode cX9_init 63 = .ok (.bipush 60, 2) := by decide +kernel
theorem dX9_init_65 : decode cX9_init 65 = .ok (.newarray .int, 2) := by decide +kernel
theorem dX9_init_67 : decode cX9_init 67 = .ok (.putfield 36, 3) := by decide +kernel
theorem dX9_init_70 : decode cX9_init 70 = .ok (.aload_n 0, 1) := by decide +kernel
theorem dX9_init_71 : decode cX9_init 71 = .ok (.bipush 120, 2) := by decide +kernel
theorem dX9_init_73 : decode cX9_init 73 = .ok (.newarray .int, 2) := by decide +kernel
theorem dX9_init_75 : decode cX9_init 75 = .ok (.putfield 39, 3) := by decide +kernel
theorem dX9_init_78 : decode cX9_init 78 = .ok (.aload_n 0, 1) := by decide +kernel
theorem dX9_init_79 : decode cX9_init 79 = .ok (.iconst 4, 1) := by decide +kernel
theorem dX9_init_80 : decode cX9_init 80 = .ok (.newarray .int, 2) := by decide +kernel
theorem dX9_init_82 : decode cX9_init 82 = .ok (.putfield 42, 3) := by decide +kernel
theorem dX9_init_85 : decode cX9_init 85 = .ok (.aload_n 0, 1) := by decide +kernel
theorem dX9_init_86 : decode cX9_init 86 = .ok (.iconst 4, 1) := by decide +kernel
theorem dX9_init_87 : decode cX9_init 87 = .ok (.newarray .int, 2) := by decide +kernel
theorem dX9_init_89 : decode cX9_init 89 = .ok (.putfield 45, 3) := by decide +kernel
theorem dX9_init_92 : decode cX9_init 92 = .ok (.aload_n 0, 1) := by decide +kernel
theorem dX9_init_93 : decode cX9_init 93 = .ok (.iconst 4, 1) := by decide +kernel
theorem dX9_init_94 : decode cX9_init 94 = .ok (.newarray .int, 2) := by decide +kernel
theorem dX9_init_96 : decode cX9_init 96 = .ok (.putfield 48, 3) := by decide +kernel
theorem dX9_init_99 : decode cX9_init 99 = .ok (.aload_n 0, 1) := by decide +kernel
theorem dX9_init_100 : decode cX9_init 100 = .ok (.sipush 800, 3) := by decide +kernel
theorem dX9_init_103 : decode cX9_init 103 = .ok (.newarray .int, 2) := by decide +kernel
theorem dX9_init_105 : decode cX9_init 105 = .ok (.putfield 51, 3) := by decide +kernel
theorem dX9_init_108 : decode cX9_init 108 = .ok (.aload_n 0, 1) := by decide +kernel
theorem dX9_init_109 : decode cX9_init 109 = .ok (.bipush 32, 2) := by decide +kernel
theorem dX9_init_111 : decode cX9_init 111 = .ok (.newarray .int, 2) := by decide +kernel
theorem dX9_init_113 : decode cX9_init 113 = .ok (.putfield 54, 3) := by decide +kernel
theorem dX9_init_116 : decode cX9_init 116 = .ok (.aload_n 0, 1) := by decide +kernel
theorem dX9_init_117 : decode cX9_init 117 = .ok (.bipush 32, 2) := by decide +kernel
theorem dX9_init_119 : decode cX9_init 119 = .ok (.newarray .long, 2) := by decide +kernel
theorem dX9_init_121 : decode cX9_init 121 = .ok (.putfield 57, 3) := by decide +kernel
theorem dX9_init_124 : decode cX9_init 124 = .ok (.aload_n 0, 1) := by decide +kernel
theorem dX9_init_125 : decode cX9_init 125 = .ok (.bipush 12, 2) := by decide +kernel
theorem dX9_init_127 : decode cX9_init 127 = .ok (.newarray .int, 2) := by decide +kernel
theorem dX9_init_129 : decode cX9_init 129 = .ok (.putfield 60, 3) := by decide +kernel
theorem dX9_init_132 : decode cX9_init 132 = .ok (.aload_n 0, 1) := by decide +kernel
theorem dX9_init_133 : decode cX9_init 133 = .ok (.bipush 12, 2) := by decide +kernel
theorem dX9_init_135 : decode cX9_init 135 = .ok (.newarray .int, 2) := by decide +kernel
theorem dX9_init_137 : decode cX9_init 137 = .ok (.putfield 63, 3) := by decide +kernel
theorem dX9_init_140 : decode cX9_init 140 = .ok (.aload_n 0, 1) := by decide +kernel
theorem dX9_init_141 : decode cX9_init 141 = .ok (.bipush 10, 2) := by decide +kernel
theorem dX9_init_143 : decode cX9_init 143 = .ok (.putfield 66, 3) := by decide +kernel
theorem dX9_init_146 : decode cX9_init 146 = .ok (.aload_n 0, 1) := by decide +kernel
theorem dX9_init_147 : decode cX9_init 147 = .ok (.bipush 40, 2) := by decide +kernel
theorem dX9_init_149 : decode cX9_init 149 = .ok (.newarray .int, 2) := by decide +kernel
theorem dX9_init_151 : decode cX9_init 151 = .ok (.putfield 69, 3) := by decide +kernel
theorem dX9_init_154 : decode cX9_init 154 = .ok (.aload_n 0, 1) := by decide +kernel
theorem dX9_init_155 : decode cX9_init 155 = .ok (.ldc 72, 2) := by decide +kernel
theorem dX9_init_157 : decode cX9_init 157 = .ok (.newarray .int, 2) := by decide +kernel
theorem dX9_init_159 : decode cX9_init 159 = .ok (.putfield 73, 3) := by decide +kernel
theorem dX9_init_162 : decode cX9_init 162 = .ok (.aload_n 0, 1) := by decide +kernel
theorem dX9_init_163 : decode cX9_init 163 = .ok (.iconst 3, 1) := by decide +kernel
theorem dX9_init_164 : decode cX9_init 164 = .ok (.newarray .int, 2) := by decide +kernel
theorem dX9_init_166 : decode cX9_init 166 = .ok (.putfield 76, 3) := by decide +kernel
theorem dX9_init_169 : decode cX9_init 169 = .ok (.aload_n 0, 1) := by decide +kernel
theorem dX9_init_170 : decode cX9_init 170 = .ok (.iconst 4, 1) := by decide +kernel
theorem dX9_init_171 : decode cX9_init 171 = .ok (.newarray .int, 2) := by decide +kernel
theorem dX9_init_173 : decode cX9_init 173 = .ok (.putfield 79, 3) := by decide +kernel
theorem dX9_init_176 : decode cX9_init 176 = .ok (.aload_n 0, 1) := by decide +kernel
theorem dX9_init_177 : decode cX9_init 177 = .ok (.sipush 800, 3) := by decide +kernel
theorem dX9_init_180 : decode cX9_init 180 = .ok (.newarray .int, 2) := by decide +kernel
theorem dX9_init_182 : decode cX9_init 182 = .ok (.putfield 82, 3) := by decide +kernel
theorem dX9_init_185 : decode cX9_init 185 = .ok (.aload_n 0, 1) := by decide +kernel
theorem dX9_init_186 : decode cX9_init 186 = .ok (.iconst 4, 1) := by decide +kernel
theorem dX9_init_187 : decode cX9_init 187 = .ok (.newarray .boolean, 2) := by decide +kernel
theorem dX9_init_189 : decode cX9_init 189 = .ok (.putfield 85, 3) := by decide +kernel
theorem dX9_init_192 : decode cX9_init 192 = .ok (.aload_n 0, 1) := by decide +kernel
theorem dX9_init_193 : decode cX9_init 193 = .ok (.getfield 13, 3) := by decide +kernel
theorem dX9_init_196 : decode cX9_init 196 = .ok (.iconst 0, 1) := by decide +kernel
theorem dX9_init_197 : decode cX9_init 197 = .ok (.lconst 1, 1) := by decide +kernel
theorem dX9_init_198 : decode cX9_init 198 = .ok (.lastore, 1) := by decide +kernel
theorem dX9_init_199 : decode cX9_init 199 = .ok (.aload_n 0, 1) := by decide +kernel
theorem dX9_init_200 : decode cX9_init 200 = .ok (.getfield 17, 3) := by decide +kernel
theorem dX9_init_203 : decode cX9_init 203 = .ok (.iconst 0, 1) := by decide +kernel
theorem dX9_init_204 : decode cX9_init 204 = .ok (.lconst 1, 1) := by decide +kernel
theorem dX9_init_205 : decode cX9_init 205 = .ok (.lastore, 1) := by decide +kernel
theorem dX9_init_206 : decode cX9_init 206 = .ok (.iconst 0, 1) := by decide +kernel
theorem dX9_init_207 : decode cX9_init 207 = .ok (.istore_n 1, 1) := by decide +kernel
theorem dX9_init_208 : decode cX9_init 208 = .ok (.iload_n 1, 1) := by decide +kernel
theorem dX9_init_209 : decode cX9_init 209 = .ok (.iconst 4, 1) := by decide +kernel
theorem dX9_init_210 : decode cX9_init 210 = .ok (.if_icmp .ge 16, 3) := by decide +kernel
theorem dX9_init_213 : decode cX9_init 213 = .ok (.aload_n 0, 1) := by decide +kernel
theorem dX9_init_214 : decode cX9_init 214 = .ok (.getfield 42, 3) := by decide +kernel
theorem dX9_init_217 : decode cX9_init 217 = .ok (.iload_n 1, 1) := by decide +kernel
theorem dX9_init_218 : decode cX9_init 218 = .ok (.iconst (-1), 1) := by decide +kernel
theorem dX9_init_219 : decode cX9_init 219 = .ok (.iastore, 1) := by decide +kernel
theorem dX9_init_220 : decode cX9_init 220 = .ok (.iinc 1 1, 3) := by decide +kernel
theorem dX9_init_223 : decode cX9_init 223 = .ok (.goto (-15), 3) := by decide +kernel
theorem dX9_init_226 : decode cX9_init 226 = .ok (.aload_n 0, 1) := by decide +kernel
theorem dX9_init_227 : decode cX9_init 227 = .ok (.getfield 76, 3) := by decide +kernel
theorem dX9_init_230 : decode cX9_init 230 = .ok (.iconst 0, 1) := by decide +kernel
theorem dX9_init_231 : decode cX9_init 231 = .ok (.sipush 150, 3) := by decide +kernel
theorem dX9_init_234 : decode cX9_init 234 = .ok (.iastore, 1) := by decide +kernel
theorem dX9_init_235 : decode cX9_init 235 = .ok (.aload_n 0, 1) := by decide +kernel
theorem dX9_init_236 : decode cX9_init 236 = .ok (.getfield 76, 3) := by decide +kernel
theorem dX9_init_239 : decode cX9_init 239 = .ok (.iconst 1, 1) := by decide +kernel
theorem dX9_init_240 : decode cX9_init 240 = .ok (.bipush 120, 2) := by decide +kernel
theorem dX9_init_242 : decode cX9_init 242 = .ok (.iastore, 1) := by decide +kernel
theorem dX9_init_243 : decode cX9_init 243 = .ok (.aload_n 0, 1) := by decide +kernel
theorem dX9_init_244 : decode cX9_init 244 = .ok (.getfield 76, 3) := by decide +kernel
theorem dX9_init_247 : decode cX9_init 247 = .ok (.iconst 2, 1) := by decide +kernel
theorem dX9_init_248 : decode cX9_init 248 = .ok (.iconst 2, 1) := by decide +kernel
theorem dX9_init_249 : decode cX9_init 249 = .ok (.iastore, 1) := by decide +kernel
theorem dX9_init_250 : decode cX9_init 250 = .ok (.return_, 1) := by decide +kernel
theorem dX9_reduce_0 : decode cX9_reduce 0 = .ok (.lload_n 1, 1) := by decide +kernel
theorem dX9_reduce_1 : decode cX9_reduce 1 = .ok (.lstore 5, 2) := by decide +kernel
theorem dX9_reduce_3 : decode cX9_reduce 3 = .ok (.lload_n 3, 1) := by decide +kernel
theorem dX9_reduce_4 : decode cX9_reduce 4 = .ok (.lstore 7, 2) := by decide +kernel
theorem dX9_reduce_6 : decode cX9_reduce 6 = .ok (.lload 7, 2) := by decide +kernel
theorem dX9_reduce_8 : decode cX9_reduce 8 = .ok (.lconst 0, 1) := by decide +kernel
theorem dX9_reduce_9 : decode cX9_reduce 9 = .ok (.lcmp, 1) := by decide +kernel
theorem dX9_reduce_10 : decode cX9_reduce 10 = .ok (.ifCond .eq 21, 3) := by decide +kernel
theorem dX9_reduce_13 : decode cX9_reduce 13 = .ok (.lload 5, 2) := by decide +kernel
theorem dX9_reduce_15 : decode cX9_reduce 15 = .ok (.lload 7, 2) := by decide +kernel
theorem dX9_reduce_17 : decode cX9_reduce 17 = .ok (.lrem, 1) := by decide +kernel
theorem dX9_reduce_18 : decode cX9_reduce 18 = .ok (.lstore 9, 2) := by decide +kernel
theorem dX9_reduce_20 : decode cX9_reduce 20 = .ok (.lload 7, 2) := by decide +kernel
theorem dX9_reduce_22 : decode cX9_reduce 22 = .ok (.lstore 5, 2) := by decide +kernel
theorem dX9_reduce_24 : decode cX9_reduce 24 = .ok (.lload 9, 2) := by decide +kernel
theorem dX9_reduce_26 : decode cX9_reduce 26 = .ok (.lstore 7, 2) := by decide +kernel
theorem dX9_reduce_28 : decode cX9_reduce 28 = .ok (.goto (-22), 3) := by decide +kernel
theorem dX9_reduce_31 : decode cX9_reduce 31 = .ok (.aload_n 0, 1) := by decide +kernel
theorem dX9_reduce_32 : decode cX9_reduce 32 = .ok (.lload_n 1, 1) := by decide +kernel
theorem dX9_reduce_33 : decode cX9_reduce 33 = .ok (.lload 5, 2) := by decide +kernel
theorem dX9_reduce_35 : decode cX9_reduce 35 = .ok (.ldiv, 1) := by decide +kernel
theorem dX9_reduce_36 : decode cX9_reduce 36 = .ok (.putfield 89, 3) := by decide +kernel
theorem dX9_reduce_39 : decode cX9_reduce 39 = .ok (.aload_n 0, 1) := by decide +kernel
theorem dX9_reduce_40 : decode cX9_reduce 40 = .ok (.lload_n 3, 1) := by decide +kernel
theorem dX9_reduce_41 : decode cX9_reduce 41 = .ok (.lload 5, 2) := by decide +kernel
theorem dX9_reduce_43 : decode cX9_reduce 43 = .ok (.ldiv, 1) := by decide +kernel
theorem dX9_reduce_44 : decode cX9_reduce 44 = .ok (.putfield 93, 3) := by decide +kernel
theorem dX9_reduce_47 : decode cX9_reduce 47 = .ok (.return_, 1) := by decide +kernel
set_option maxRecDepth 20000 in
theorem ggX9_shaft_X9_in : GoodIn wsX9_shaft wsX9_in := goodIn_sub (am_cons (List.mem_cons_of_mem _ (List.mem_append_left _ (List.mem_of_getElem? (i := 11) rfl))) (am_nil)) (by decide +kernel)
set_option maxRecDepth 20000 in
theorem gX9_shaft_X9_in : GoodIn wsX9_shaft (va_wsS RX9 96 yX9_in wsX9_in) := goodIn_app (goodIn_sub (am_cons (List.mem_cons_of_mem _ (List.mem_append_left _ (List.mem_of_getElem? (i := 8) rfl))) (am_cons (List.mem_cons_of_mem _ (List.mem_append_left _ (List.mem_of_getElem? (i := 9) rfl))) (am_cons (List.mem_cons_of_mem _ (List.mem_append_left _ (List.mem_of_getElem? (i := 10) rfl))) am_nil))) (by decide +kernel)) ggX9_shaft_X9_in
set_option maxRecDepth 20000 in
theorem ggX9_shaft_X9_reduce : GoodIn wsX9_shaft wsX9_reduce := goodIn_sub (am_cons (List.mem_cons_of_mem _ (List.mem_append_left _ (List.mem_of_getElem? (i := 15) rfl))) (am_app (am_cons (List.mem_cons_of_mem _ (List.mem_append_left _ (List.mem_of_getElem? (i := 5) rfl))) (am_cons (List.mem_cons_of_mem _ (List.mem_append_left _ (List.mem_of_getElem? (i := 6) rfl))) am_nil)) (fun _ h => List.mem_cons_of_mem _ (List.mem_append_right _ (h))))) (by decide +kernel)
set_option maxRecDepth 20000 in
theorem gX9_shaft_X9_reduce : GoodIn wsX9_shaft (wsV RX9 104 RX9 yX9_reduce wsX9_reduce) := goodIn_app (goodIn_sub (am_cons (List.mem_cons_of_mem _ (List.mem_append_left _ (List.mem_of_getElem? (i := 12) rfl))) (am_cons (List.mem_cons_of_mem _ (List.mem_append_left _ (List.mem_of_getElem? (i := 13) rfl))) (am_cons (List.mem_cons_of_mem _ (List.mem_append_left _ (List.mem_of_getElem? (i := 14) rfl))) (am_cons (List.mem_cons_of_mem _ (List.mem_append_left _ (List.mem_of_getElem? (i := 10) rfl))) am_nil)))) (by decide +kernel)) ggX9_shaft_X9_reduce
theorem dX9_shaft_0 : decode cX9_shaft 0 = .ok (.iload_n 1, 1) := by decide +kernel
theorem dX9_shaft_1 : decode cX9_shaft 1 = .ok (.i2l, 1) := by decide +kernel
theorem dX9_shaft_2 : decode cX9_shaft 2 = .ok (.lconst 0, 1) := by decide +kernel
theorem dX9_shaft_3 : decode cX9_shaft 3 = .ok (.aload_n 0, 1) := by decide +kernel
theorem dX9_shaft_4 : decode cX9_shaft 4 = .ok (.getfield 7, 3) := by decide +kernel
theorem dX9_shaft_7 : decode cX9_shaft 7 = .ok (.iconst 1, 1) := by decide +kernel
theorem dX9_shaft_8 : decode cX9_shaft 8 = .ok (.isub, 1) := by decide +kernel
theorem dX9_shaft_9 : decode cX9_shaft 9 = .ok (.i2l, 1) := by decide +kernel
theorem dX9_shaft_10 : decode cX9_shaft 10 = .ok (.invokestatic 96, 3) := by decide +kernel
theorem dX9_shaft_13 : decode cX9_shaft 13 = .ok (.ifCond .eq 31, 3) := by decide +kernel
theorem dX9_shaft_16 : decode cX9_shaft 16 = .ok (.iload_n 2, 1) := by decide +kernel
theorem dX9_shaft_17 : decode cX9_shaft 17 = .ok (.i2l, 1) := by decide +kernel
theorem dX9_shaft_18 : decode cX9_shaft 18 = .ok (.ldc2_w 100, 3) := by decide +kernel
theorem dX9_shaft_21 : decode cX9_shaft 21 = .ok (.ldc2_w 102, 3) := by decide +kernel
theorem dX9_shaft_24 : decode cX9_shaft 24 = .ok (.invokestatic 96, 3) := by decide +kernel
theorem dX9_shaft_27 : decode cX9_shaft 27 = .ok (.ifCond .eq 17, 3) := by decide +kernel
theorem dX9_shaft_30 : decode cX9_shaft 30 = .ok (.iload_n 3, 1) := by decide +kernel
theorem dX9_shaft_31 : decode cX9_shaft 31 = .ok (.i2l, 1) := by decide +kernel
theorem dX9_shaft_32 : decode cX9_shaft 32 = .ok (.ldc2_w 100, 3) := by decide +kernel
theorem dX9_shaft_35 : decode cX9_shaft 35 = .ok (.ldc2_w 102, 3) := by decide +kernel
theorem dX9_shaft_38 : decode cX9_shaft 38 = .ok (.invokestatic 96, 3) := by decide +kernel
theorem dX9_shaft_41 : decode cX9_shaft 41 = .ok (.ifCond .ne 5, 3) := by decide +kernel
theorem dX9_shaft_44 : decode cX9_shaft 44 = .ok (.iconst (-1), 1) := by decide +kernel
theorem dX9_shaft_45 : decode cX9_shaft 45 = .ok (.ireturn, 1) := by decide +kernel
theorem dX9_shaft_46 : decode cX9_shaft 46 = .ok (.aload_n 0, 1) := by decide +kernel
theorem dX9_shaft_47 : decode cX9_shaft 47 = .ok (.getfield 7, 3) := by decide +kernel
theorem dX9_shaft_50 : decode cX9_shaft 50 = .ok (.iconst 4, 1) := by decide +kernel
theorem dX9_shaft_51 : decode cX9_shaft 51 = .ok (.if_icmp .ne 6, 3) := by decide +kernel
theorem dX9_shaft_54 : decode cX9_shaft 54 = .ok (.bipush (-3), 2) := by decide +kernel
theorem dX9_shaft_56 : decode cX9_shaft 56 = .ok (.ireturn, 1) := by decide +kernel
theorem dX9_shaft_57 : decode cX9_shaft 57 = .ok (.aload_n 0, 1) := by decide +kernel
theorem dX9_shaft_58 : decode cX9_shaft 58 = .ok (.aload_n 0, 1) := by decide +kernel
theorem dX9_shaft_59 : decode cX9_shaft 59 = .ok (.getfield 13, 3) := by decide +kernel
theorem dX9_shaft_62 : decode cX9_shaft 62 = .ok (.iload_n 1, 1) := by decide +kernel
theorem dX9_shaft_63 : decode cX9_shaft 63 = .ok (.laload, 1) := by decide +kernel
theorem dX9_shaft_64 : decode cX9_shaft 64 = .ok (.iload_n 2, 1) := by decide +kernel
theorem dX9_shaft_65 : decode cX9_shaft 65 = .ok (.i2l, 1) := by decide +kernel
theorem dX9_shaft_66 : decode cX9_shaft 66 = .ok (.lmul, 1) := by decide +kernel
theorem dX9_shaft_67 : decode cX9_shaft 67 = .ok (.aload_n 0, 1) := by decide +kernel
theorem dX9_shaft_68 : decode cX9_shaft 68 = .ok (.getfield 17, 3) := by decide +kernel
theorem dX9_shaft_71 : decode cX9_shaft 71 = .ok (.iload_n 1, 1) := by decide +kernel
theorem dX9_shaft_72 : decode cX9_shaft 72 = .ok (.laload, 1) := by decide +kernel
theorem dX9_shaft_73 : decode cX9_shaft 73 = .ok (.iload_n 3, 1) := by decide +kernel
theorem dX9_shaft_74 : decode cX9_shaft 74 = .ok (.i2l, 1) := by decide +kernel
theorem dX9_shaft_75 : decode cX9_shaft 75 = .ok (.lmul, 1) := by decide +kernel
theorem dX9_shaft_76 : decode cX9_shaft 76 = .ok (.invokevirtual 104, 3) := by decide +kernel
theorem dX9_shaft_79 : decode cX9_shaft 79 = .ok (.aload_n 0, 1) := by decide +kernel
theorem dX9_shaft_80 : decode cX9_shaft 80 = .ok (.getfield 13, 3) := by decide +kernel
theorem dX9_shaft_83 : decode cX9_shaft 83 = .ok (.aload_n 0, 1) := by decide +kernel
theorem dX9_shaft_84 : decode cX9_shaft 84 = .ok (.getfield 7, 3) := by decide +kernel
theorem dX9_shaft_87 : decode cX9_shaft 87 = .ok (.aload_n 0, 1) := by decide +kernel
theorem dX9_shaft_88 : decode cX9_shaft 88 = .ok (.getfield 89, 3) := by decide +kernel
theorem dX9_shaft_91 : decode cX9_shaft 91 = .ok (.lastore, 1) := by decide +kernel
theorem dX9_shaft_92 : decode cX9_shaft 92 = .ok (.aload_n 0, 1) := by decide +kernel
theorem dX9_shaft_93 : decode cX9_shaft 93 = .ok (.getfield 17, 3) := by decide +kernel
theorem dX9_shaft_96 : decode cX9_shaft 96 = .ok (.aload_n 0, 1) := by decide +kernel
theorem dX9_shaft_97 : decode cX9_shaft 97 = .ok (.getfield 7, 3) := by decide +kernel
theorem dX9_shaft_100 : decode cX9_shaft 100 = .ok (.aload_n 0, 1) := by decide +kernel
theorem dX9_shaft_101 : decode cX9_shaft 101 = .ok (.getfield 93, 3) := by decide +kernel
theorem dX9_shaft_104 : decode cX9_shaft 104 = .ok (.lastore, 1) := by decide +kernel
theorem dX9_shaft_105 : decode cX9_shaft 105 = .ok (.aload_n 0, 1) := by decide +kernel
theorem dX9_shaft_106 : decode cX9_shaft 106 = .ok (.getfield 20, 3) := by decide +kernel
theorem dX9_shaft_109 : decode cX9_shaft 109 = .ok (.aload_n 0, 1) := by decide +kernel
theorem dX9_shaft_110 : decode cX9_shaft 110 = .ok (.getfield 7, 3) := by decide +kernel
theorem dX9_shaft_113 : decode cX9_shaft 113 = .ok (.iload_n 3, 1) := by decide +kernel
theorem dX9_shaft_114 : decode cX9_shaft 114 = .ok (.iastore, 1) := by decide +kernel
theorem dX9_shaft_115 : decode cX9_shaft 115 = .ok (.aload_n 0, 1) := by decide +kernel
theorem dX9_shaft_116 : decode cX9_shaft 116 = .ok (.dup, 1) := by decide +kernel
theorem dX9_shaft_117 : decode cX9_shaft 117 = .ok (.getfield 7, 3) := by decide +kernel
theorem dX9_shaft_120 : decode cX9_shaft 120 = .ok (.iconst 1, 1) := by decide +kernel
theorem dX9_shaft_121 : decode cX9_shaft 121 = .ok (.iadd, 1) := by decide +kernel
theorem dX9_shaft_122 : decode cX9_shaft 122 = .ok (.putfield 7, 3) := by decide +kernel
theorem dX9_shaft_125 : decode cX9_shaft 125 = .ok (.aload_n 0, 1) := by decide +kernel
theorem dX9_shaft_126 : decode cX9_shaft 126 = .ok (.getfield 7, 3) := by decide +kernel
theorem dX9_shaft_129 : decode cX9_shaft 129 = .ok (.iconst 1, 1) := by decide +kernel
theorem dX9_shaft_130 : decode cX9_shaft 130 = .ok (.isub, 1) := by decide +kernel
theorem dX9_shaft_131 : decode cX9_shaft 131 = .ok (.ireturn, 1) := by decide +kernel
set_option maxRecDepth 20000 in
theorem ggX9_ring_X9_in : GoodIn wsX9_ring wsX9_in := goodIn_sub (am_cons (List.mem_cons_of_mem _ (List.mem_append_left _ (List.mem_of_getElem? (i := 12) rfl))) (am_nil)) (by decide +kernel)
set_option maxRecDepth 20000 in
theorem gX9_ring_X9_in : GoodIn wsX9_ring (va_wsS RX9 96 yX9_in wsX9_in) := goodIn_app (goodIn_sub (am_cons (List.mem_cons_of_mem _ (List.mem_append_left _ (List.mem_of_getElem? (i := 9) rfl))) (am_cons (List.mem_cons_of_mem _ (List.mem_append_left _ (List.mem_of_getElem? (i := 10) rfl))) (am_cons (List.mem_cons_of_mem _ (List.mem_append_left _ (List.mem_of_getElem? (i := 11) rfl))) am_nil))) (by decide +kernel)) ggX9_ring_X9_in
theorem dX9_ring_0 : decode cX9_ring 0 = .ok (.iload_n 1, 1) := by decide +kernel
theorem dX9_ring_1 : decode cX9_ring 1 = .ok (.i2l, 1) := by decide +kernel
theorem dX9_ring_2 : decode cX9_ring 2 = .ok (.lconst 0, 1) := by decide +kernel
theorem dX9_ring_3 : decode cX9_ring 3 = .ok (.aload_n 0, 1) := by decide +kernel
theorem dX9_ring_4 : decode cX9_ring 4 = .ok (.getfield 7, 3) := by decide +kernel
theorem dX9_ring_7 : decode cX9_ring 7 = .ok (.iconst 1, 1) := by decide +kernel
theorem dX9_ring_8 : decode cX9_ring 8 = .ok (.isub, 1) := by decide +kernel
theorem dX9_ring_9 : decode cX9_ring 9 = .ok (.i2l, 1) := by decide +kernel
theorem dX9_ring_10 : decode cX9_ring 10 = .ok (.invokestatic 96, 3) := by decide +kernel
theorem dX9_ring_13 : decode cX9_ring 13 = .ok (.ifCond .eq 44, 3) := by decide +kernel
theorem dX9_ring_16 : decode cX9_ring 16 = .ok (.iload_n 2, 1) := by decide +kernel
theorem dX9_ring_17 : decode cX9_ring 17 = .ok (.i2l, 1) := by decide +kernel
theorem dX9_ring_18 : decode cX9_ring 18 = .ok (.ldc2_w 108, 3) := by decide +kernel
theorem dX9_ring_21 : decode cX9_ring 21 = .ok (.ldc2_w 110, 3) := by decide +kernel
theorem dX9_ring_24 : decode cX9_ring 24 = .ok (.invokestatic 96, 3) := by decide +kernel
theorem dX9_ring_27 : decode cX9_ring 27 = .ok (.ifCond .eq 30, 3) := by decide +kernel
theorem dX9_ring_30 : decode cX9_ring 30 = .ok (.iload_n 3, 1) := by decide +kernel
theorem dX9_ring_31 : decode cX9_ring 31 = .ok (.i2l, 1) := by decide +kernel
theorem dX9_ring_32 : decode cX9_ring 32 = .ok (.lconst 1, 1) := by decide +kernel
theorem dX9_ring_33 : decode cX9_ring 33 = .ok (.iload 4, 2) := by decide +kernel
theorem dX9_ring_35 : decode cX9_ring 35 = .ok (.iconst 1, 1) := by decide +kernel
theorem dX9_ring_36 : decode cX9_ring 36 = .ok (.isub, 1) := by decide +kernel
theorem dX9_ring_37 : decode cX9_ring 37 = .ok (.i2l, 1) := by decide +kernel
theorem dX9_ring_38 : decode cX9_ring 38 = .ok (.invokestatic 96, 3) := by decide +kernel
theorem dX9_ring_41 : decode cX9_ring 41 = .ok (.ifCond .eq 16, 3) := by decide +kernel
theorem dX9_ring_44 : decode cX9_ring 44 = .ok (.iload 4, 2) := by decide +kernel
theorem dX9_ring_46 : decode cX9_ring 46 = .ok (.i2l, 1) := by decide +kernel
theorem dX9_ring_47 : decode cX9_ring 47 = .ok (.lconst 1, 1) := by decide +kernel
theorem dX9_ring_48 : decode cX9_ring 48 = .ok (.ldc2_w 112, 3) := by decide +kernel
theorem dX9_ring_51 : decode cX9_ring 51 = .ok (.invokestatic 96, 3) := by decide +kernel
theorem dX9_ring_54 : decode cX9_ring 54 = .ok (.ifCond .ne 5, 3) := by decide +kernel
theorem dX9_ring_57 : decode cX9_ring 57 = .ok (.iconst (-1), 1) := by decide +kernel
theorem dX9_ring_58 : decode cX9_ring 58 = .ok (.ireturn, 1) := by decide +kernel
theorem dX9_ring_59 : decode cX9_ring 59 = .ok (.aload_n 0, 1) := by decide +kernel
theorem dX9_ring_60 : decode cX9_ring 60 = .ok (.getfield 114, 3) := by decide +kernel
theorem dX9_ring_63 : decode cX9_ring 63 = .ok (.bipush 8, 2) := by decide +kernel
theorem dX9_ring_65 : decode cX9_ring 65 = .ok (.if_icmp .ne 6, 3) := by decide +kernel
theorem dX9_ring_68 : decode cX9_ring 68 = .ok (.bipush (-3), 2) := by decide +kernel
theorem dX9_ring_70 : decode cX9_ring 70 = .ok (.ireturn, 1) := by decide +kernel
theorem dX9_ring_71 : decode cX9_ring 71 = .ok (.aload_n 0, 1) := by decide +kernel
theorem dX9_ring_72 : decode cX9_ring 72 = .ok (.getfield 24, 3) := by decide +kernel
theorem dX9_ring_75 : decode cX9_ring 75 = .ok (.aload_n 0, 1) := by decide +kernel
theorem dX9_ring_76 : decode cX9_ring 76 = .ok (.getfield 114, 3) := by decide +kernel
theorem dX9_ring_79 : decode cX9_ring 79 = .ok (.iload_n 1, 1) := by decide +kernel
theorem dX9_ring_80 : decode cX9_ring 80 = .ok (.iastore, 1) := by decide +kernel
theorem dX9_ring_81 : decode cX9_ring 81 = .ok (.aload_n 0, 1) := by decide +kernel
theorem dX9_ring_82 : decode cX9_ring 82 = .ok (.getfield 27, 3) := by decide +kernel
theorem dX9_ring_85 : decode cX9_ring 85 = .ok (.aload_n 0, 1) := by decide +kernel
theorem dX9_ring_86 : decode cX9_ring 86 = .ok (.getfield 114, 3) := by decide +kernel
theorem dX9_ring_89 : decode cX9_ring 89 = .ok (.iload_n 2, 1) := by decide +kernel
theorem dX9_ring_90 : decode cX9_ring 90 = .ok (.iastore, 1) := by decide +kernel
theorem dX9_ring_91 : decode cX9_ring 91 = .ok (.aload_n 0, 1) := by decide +kernel
theorem dX9_ring_92 : decode cX9_ring 92 = .ok (.getfield 30, 3) := by decide +kernel
theorem dX9_ring_95 : decode cX9_ring 95 = .ok (.aload_n 0, 1) := by decide +kernel
theorem dX9_ring_96 : decode cX9_ring 96 = .ok (.getfield 114, 3) := by decide +kernel
theorem dX9_ring_99 : decode cX9_ring 99 = .ok (.iload_n 3, 1) := by decide +kernel
theorem dX9_ring_100 : decode cX9_ring 100 = .ok (.iastore, 1) := by decide +kernel
theorem dX9_ring_101 : decode cX9_ring 101 = .ok (.aload_n 0, 1) := by decide +kernel
theorem dX9_ring_102 : decode cX9_ring 102 = .ok (.getfield 33, 3) := by decide +kernel
theorem dX9_ring_105 : decode cX9_ring 105 = .ok (.aload_n 0, 1) := by decide +kernel
theorem dX9_ring_106 : decode cX9_ring 106 = .ok (.getfield 114, 3) := by decide +kernel
theorem dX9_ring_109 : decode cX9_ring 109 = .ok (.iload 4, 2) := by decide +kernel
theorem dX9_ring_111 : decode cX9_ring 111 = .ok (.iastore, 1) := by decide +kernel
theorem dX9_ring_112 : decode cX9_ring 112 = .ok (.aload_n 0, 1) := by decide +kernel
theorem dX9_ring_113 : decode cX9_ring 113 = .ok (.dup, 1) := by decide +kernel
theorem dX9_ring_114 : decode cX9_ring 114 = .ok (.getfield 114, 3) := by decide +kernel
theorem dX9_ring_117 : decode cX9_ring 117 = .ok (.iconst 1, 1) := by decide +kernel
theorem dX9_ring_118 : decode cX9_ring 118 = .ok (.iadd, 1) := by decide +kernel
theorem dX9_ring_119 : decode cX9_ring 119 = .ok (.putfield 114, 3) := by decide +kernel
theorem dX9_ring_122 : decode cX9_ring 122 = .ok (.aload_n 0, 1) := by decide +kernel
theorem dX9_ring_123 : decode cX9_ring 123 = .ok (.getfield 114, 3) := by decide +kernel
theorem dX9_ring_126 : decode cX9_ring 126 = .ok (.iconst 1, 1) := by decide +kernel
theorem dX9_ring_127 : decode cX9_ring 127 = .ok (.isub, 1) := by decide +kernel
theorem dX9_ring_128 : decode cX9_ring 128 = .ok (.ireturn, 1) := by decide +kernel
set_option maxRecDepth 20000 in
theorem ggX9_speed_X9_in : GoodIn wsX9_speed wsX9_in := goodIn_sub (am_cons (List.mem_cons_of_mem _ (List.mem_append_left _ (List.mem_of_getElem? (i := 7) rfl))) (am_nil)) (by decide +kernel)
set_option maxRecDepth 20000 in
theorem gX9_speed_X9_in : GoodIn wsX9_speed (va_wsS RX9 96 yX9_in wsX9_in) := goodIn_app (goodIn_sub (am_cons (List.mem_cons_of_mem _ (List.mem_append_left _ (List.mem_of_getElem? (i := 4) rfl))) (am_cons (List.mem_cons_of_mem _ (List.mem_append_left _ (List.mem_of_getElem? (i := 5) rfl))) (am_cons (List.mem_cons_of_mem _ (List.mem_append_left _ (List.mem_of_getElem? (i := 6) rfl))) am_nil))) (by decide +kernel)) ggX9_speed_X9_in
theorem dX9_speed_0 : decode cX9_speed 0 = .ok (.iload_n 1, 1) := by decide +kernel
theorem dX9_speed_1 : decode cX9_speed 1 = .ok (.i2l, 1) := by decide +kernel
theorem dX9_speed_2 : decode cX9_speed 2 = .ok (.lconst 0, 1) := by decide +kernel
theorem dX9_speed_3 : decode cX9_speed 3 = .ok (.aload_n 0, 1) := by decide +kernel
theorem dX9_speed_4 : decode cX9_speed 4 = .ok (.getfield 7, 3) := by decide +kernel
theorem dX9_speed_7 : decode cX9_speed 7 = .ok (.iconst 1, 1) := by decide +kernel
theorem dX9_speed_8 : decode cX9_speed 8 = .ok (.isub, 1) := by decide +kernel
theorem dX9_speed_9 : decode cX9_speed 9 = .ok (.i2l, 1) := by decide +kernel
theorem dX9_speed_10 : decode cX9_speed 10 = .ok (.invokestatic 96, 3) := by decide +kernel
theorem dX9_speed_13 : decode cX9_speed 13 = .ok (.ifCond .eq 13, 3) := by decide +kernel
theorem dX9_speed_16 : decode cX9_speed 16 = .ok (.iload_n 2, 1) := by decide +kernel
theorem dX9_speed_17 : decode cX9_speed 17 = .ok (.i2l, 1) := by decide +kernel
theorem dX9_speed_18 : decode cX9_speed 18 = .ok (.lconst 0, 1) := by decide +kernel
theorem dX9_speed_19 : decode cX9_speed 19 = .ok (.lconst 1, 1) := by decide +kernel
theorem dX9_speed_20 : decode cX9_speed 20 = .ok (.invokestatic 96, 3) := by decide +kernel
theorem dX9_speed_23 : decode cX9_speed 23 = .ok (.ifCond .ne 9, 3) := by decide +kernel
theorem dX9_speed_26 : decode cX9_speed 26 = .ok (.ldc2_w 117, 3) := by decide +kernel
theorem dX9_speed_29 : decode cX9_speed 29 = .ok (.goto 22, 3) := by decide +kernel
theorem dX9_speed_32 : decode cX9_speed 32 = .ok (.iload_n 2, 1) := by decide +kernel
theorem dX9_speed_33 : decode cX9_speed 33 = .ok (.ifCond .ne 12, 3) := by decide +kernel
theorem dX9_speed_36 : decode cX9_speed 36 = .ok (.aload_n 0, 1) := by decide +kernel
theorem dX9_speed_37 : decode cX9_speed 37 = .ok (.getfield 13, 3) := by decide +kernel
theorem dX9_speed_40 : decode cX9_speed 40 = .ok (.iload_n 1, 1) := by decide +kernel
theorem dX9_speed_41 : decode cX9_speed 41 = .ok (.laload, 1) := by decide +kernel
theorem dX9_speed_42 : decode cX9_speed 42 = .ok (.goto 9, 3) := by decide +kernel
theorem dX9_speed_45 : decode cX9_speed 45 = .ok (.aload_n 0, 1) := by decide +kernel
theorem dX9_speed_46 : decode cX9_speed 46 = .ok (.getfield 17, 3) := by decide +kernel
theorem dX9_speed_49 : decode cX9_speed 49 = .ok (.iload_n 1, 1) := by decide +kernel
theorem dX9_speed_50 : decode cX9_speed 50 = .ok (.laload, 1) := by decide +kernel
theorem dX9_speed_51 : decode cX9_speed 51 = .ok (.lreturn, 1) := by decide +kernel
theorem dX9_parts_0 : decode cX9_parts 0 = .ok (.iconst 2, 1) := by decide +kernel
theorem dX9_parts_1 : decode cX9_parts 1 = .ok (.aload_n 0, 1) := by decide +kernel
theorem dX9_parts_2 : decode cX9_parts 2 = .ok (.getfield 7, 3) := by decide +kernel
theorem dX9_parts_5 : decode cX9_parts 5 = .ok (.imul, 1) := by decide +kernel
theorem dX9_parts_6 : decode cX9_parts 6 = .ok (.iconst 1, 1) := by decide +kernel
theorem dX9_parts_7 : decode cX9_parts 7 = .ok (.isub, 1) := by decide +kernel
theorem dX9_parts_8 : decode cX9_parts 8 = .ok (.iconst 4, 1) := by decide +kernel
theorem dX9_parts_9 : decode cX9_parts 9 = .ok (.aload_n 0, 1) := by decide +kernel
theorem dX9_parts_10 : decode cX9_parts 10 = .ok (.getfield 114, 3) := by decide +kernel
theorem dX9_parts_13 : decode cX9_parts 13 = .ok (.imul, 1) := by decide +kernel
theorem dX9_parts_14 : decode cX9_parts 14 = .ok (.iadd, 1) := by decide +kernel
theorem dX9_parts_15 : decode cX9_parts 15 = .ok (.ireturn, 1) := by decide +kernel
set_option maxRecDepth 20000 in
theorem ggX9_isPart_X9_parts : GoodIn wsX9_isPart wsX9_parts := goodIn_sub (am_cons (List.mem_cons_of_mem _ (List.mem_append_left _ (List.mem_of_getElem? (i := 4) rfl))) (am_app (am_cons (List.mem_cons_of_mem _ (List.mem_append_left _ (List.mem_of_getElem? (i := 5) rfl))) (am_cons (List.mem_cons_of_mem _ (List.mem_append_left _ (List.mem_of_getElem? (i := 6) rfl))) am_nil)) (fun _ h => List.mem_cons_of_mem _ (List.mem_append_right _ (h))))) (by decide +kernel)
set_option maxRecDepth 20000 in
theorem gX9_isPart_X9_parts : GoodIn wsX9_isPart (wsV RX9 119 RX9 yX9_parts wsX9_parts) := goodIn_app (goodIn_sub (am_cons (List.mem_cons_of_mem _ (List.mem_append_left _ (List.mem_of_getElem? (i := 0) rfl))) (am_cons (List.mem_cons_of_mem _ (List.mem_append_left _ (List.mem_of_getElem? (i := 1) rfl))) (am_cons (List.mem_cons_of_mem _ (List.mem_append_left _ (List.mem_of_getElem? (i := 2) rfl))) (am_cons (List.mem_cons_of_mem _ (List.mem_append_left _ (List.mem_of_getElem? (i := 3) rfl))) am_nil)))) (by decide +kernel)) ggX9_isPart_X9_parts
set_option maxRecDepth 20000 in
theorem ggX9_isPart_X9_in : GoodIn wsX9_isPart wsX9_in := goodIn_sub (am_cons (List.mem_cons_of_mem _ (List.mem_append_left _ (List.mem_of_getElem? (i := 9) rfl))) (am_nil)) (by decide +kernel)
set_option maxRecDepth 20000 in
theorem gX9_isPart_X9_in : GoodIn wsX9_isPart (va_wsS RX9 96 yX9_in wsX9_in) := goodIn_app (goodIn_sub (am_cons (List.mem_cons_of_mem _ (List.mem_append_left _ (List.mem_of_getElem? (i := 7) rfl))) (am_cons (List.mem_cons_of_mem _ (List.mem_append_left _ (List.mem_of_getElem? (i := 8) rfl))) (am_cons (List.mem_cons_of_mem _ (List.mem_append_left _ (List.mem_of_getElem? (i := 3) rfl))) am_nil))) (by decide +kernel)) ggX9_isPart_X9_in
theorem dX9_isPart_0 : decode cX9_isPart 0 = .ok (.iload_n 1, 1) := by decide +kernel
theorem dX9_isPart_1 : decode cX9_isPart 1 = .ok (.i2l, 1) := by decide +kernel
theorem dX9_isPart_2 : decode cX9_isPart 2 = .ok (.lconst 0, 1) := by decide +kernel
theorem dX9_isPart_3 : decode cX9_isPart 3 = .ok (.aload_n 0, 1) := by decide +kernel
theorem dX9_isPart_4 : decode cX9_isPart 4 = .ok (.invokevirtual 119, 3) := by decide +kernel
theorem dX9_isPart_7 : decode cX9_isPart 7 = .ok (.iconst 1, 1) := by decide +kernel
theorem dX9_isPart_8 : decode cX9_isPart 8 = .ok (.isub, 1) := by decide +kernel
theorem dX9_isPart_9 : decode cX9_isPart 9 = .ok (.i2l, 1) := by decide +kernel
theorem dX9_isPart_10 : decode cX9_isPart 10 = .ok (.invokestatic 96, 3) := by decide +kernel
theorem dX9_isPart_13 : decode cX9_isPart 13 = .ok (.ireturn, 1) := by decide +kernel
theorem dX9_kindOf_0 : decode cX9_kindOf 0 = .ok (.iload_n 1, 1) := by decide +kernel
theorem dX9_kindOf_1 : decode cX9_kindOf 1 = .ok (.aload_n 0, 1) := by decide +kernel
theorem dX9_kindOf_2 : decode cX9_kindOf 2 = .ok (.getfield 7, 3) := by decide +kernel
theorem dX9_kindOf_5 : decode cX9_kindOf 5 = .ok (.if_icmp .ge 7, 3) := by decide +kernel
theorem dX9_kindOf_8 : decode cX9_kindOf 8 = .ok (.iconst 0, 1) := by decide +kernel
theorem dX9_kindOf_9 : decode cX9_kindOf 9 = .ok (.goto 33, 3) := by decide +kernel
theorem dX9_kindOf_12 : decode cX9_kindOf 12 = .ok (.iload_n 1, 1) := by decide +kernel
theorem dX9_kindOf_13 : decode cX9_kindOf 13 = .ok (.iconst 2, 1) := by decide +kernel
theorem dX9_kindOf_14 : decode cX9_kindOf 14 = .ok (.aload_n 0, 1) := by decide +kernel
theorem dX9_kindOf_15 : decode cX9_kindOf 15 = .ok (.getfield 7, 3) := by decide +kernel
theorem dX9_kindOf_18 : decode cX9_kindOf 18 = .ok (.imul, 1) := by decide +kernel
theorem dX9_kindOf_19 : decode cX9_kindOf 19 = .ok (.iconst 1, 1) := by decide +kernel
theorem dX9_kindOf_20 : decode cX9_kindOf 20 = .ok (.isub, 1) := by decide +kernel
theorem dX9_kindOf_21 : decode cX9_kindOf 21 = .ok (.if_icmp .ge 7, 3) := by decide +kernel
theorem dX9_kindOf_24 : decode cX9_kindOf 24 = .ok (.iconst 1, 1) := by decide +kernel
theorem dX9_kindOf_25 : decode cX9_kindOf 25 = .ok (.goto 17, 3) := by decide +kernel
theorem dX9_kindOf_28 : decode cX9_kindOf 28 = .ok (.iconst 2, 1) := by decide +kernel
theorem dX9_kindOf_29 : decode cX9_kindOf 29 = .ok (.iload_n 1, 1) := by decide +kernel
theorem dX9_kindOf_30 : decode cX9_kindOf 30 = .ok (.iconst 2, 1) := by decide +kernel
theorem dX9_kindOf_31 : decode cX9_kindOf 31 = .ok (.aload_n 0, 1) := by decide +kernel
theorem dX9_kindOf_32 : decode cX9_kindOf 32 = .ok (.getfield 7, 3) := by decide +kernel
theorem dX9_kindOf_35 : decode cX9_kindOf 35 = .ok (.imul, 1) := by decide +kernel
theorem dX9_kindOf_36 : decode cX9_kindOf 36 = .ok (.isub, 1) := by decide +kernel
theorem dX9_kindOf_37 : decode cX9_kindOf 37 = .ok (.iconst 1, 1) := by decide +kernel
theorem dX9_kindOf_38 : decode cX9_kindOf 38 = .ok (.iadd, 1) := by decide +kernel
theorem dX9_kindOf_39 : decode cX9_kindOf 39 = .ok (.iconst 4, 1) := by decide +kernel
theorem dX9_kindOf_40 : decode cX9_kindOf 40 = .ok (.irem, 1) := by decide +kernel
theorem dX9_kindOf_41 : decode cX9_kindOf 41 = .ok (.iadd, 1) := by decide +kernel
theorem dX9_kindOf_42 : decode cX9_kindOf 42 = .ok (.ireturn, 1) := by decide +kernel
theorem dX9_ringOf_0 : decode cX9_ringOf 0 = .ok (.iload_n 1, 1) := by decide +kernel
theorem dX9_ringOf_1 : decode cX9_ringOf 1 = .ok (.iconst 2, 1) := by decide +kernel
theorem dX9_ringOf_2 : decode cX9_ringOf 2 = .ok (.aload_n 0, 1) := by decide +kernel
theorem dX9_ringOf_3 : decode cX9_ringOf 3 = .ok (.getfield 7, 3) := by decide +kernel
theorem dX9_ringOf_6 : decode cX9_ringOf 6 = .ok (.imul, 1) := by decide +kernel
theorem dX9_ringOf_7 : decode cX9_ringOf 7 = .ok (.isub, 1) := by decide +kernel
theorem dX9_ringOf_8 : decode cX9_ringOf 8 = .ok (.iconst 1, 1) := by decide +kernel
theorem dX9_ringOf_9 : decode cX9_ringOf 9 = .ok (.iadd, 1) := by decide +kernel
theorem dX9_ringOf_10 : decode cX9_ringOf 10 = .ok (.iconst 4, 1) := by decide +kernel
theorem dX9_ringOf_11 : decode cX9_ringOf 11 = .ok (.idiv, 1) := by decide +kernel
theorem dX9_ringOf_12 : decode cX9_ringOf 12 = .ok (.ireturn, 1) := by decide +kernel
set_option maxRecDepth 20000 in
theorem ggX9_shaftOf_X9_ringOf : GoodIn wsX9_shaftOf wsX9_ringOf := goodIn_sub (am_cons (List.mem_cons_of_mem _ (List.mem_append_left _ (List.mem_of_getElem? (i := 6) rfl))) (am_app (am_cons (List.mem_cons_of_mem _ (List.mem_append_left _ (List.mem_of_getElem? (i := 0) rfl))) am_nil) (fun _ h => List.mem_cons_of_mem _ (List.mem_append_right _ (h))))) (by decide +kernel)
set_option maxRecDepth 20000 in
theorem gX9_shaftOf_X9_ringOf : GoodIn wsX9_shaftOf (wsV RX9 123 RX9 yX9_ringOf wsX9_ringOf) := goodIn_app (goodIn_sub (am_cons (List.mem_cons_of_mem _ (List.mem_append_left _ (List.mem_of_getElem? (i := 2) rfl))) (am_cons (List.mem_cons_of_mem _ (List.mem_append_left _ (List.mem_of_getElem? (i := 3) rfl))) (am_cons (List.mem_cons_of_mem _ (List.mem_append_left _ (List.mem_of_getElem? (i := 4) rfl))) (am_cons (List.mem_cons_of_mem _ (List.mem_append_left _ (List.mem_of_getElem? (i := 5) rfl))) am_nil)))) (by decide +kernel)) ggX9_shaftOf_X9_ringOf
theorem dX9_shaftOf_0 : decode cX9_shaftOf 0 = .ok (.iload_n 1, 1) := by decide +kernel
theorem dX9_shaftOf_1 : decode cX9_shaftOf 1 = .ok (.aload_n 0, 1) := by decide +kernel
theorem dX9_shaftOf_2 : decode cX9_shaftOf 2 = .ok (.getfield 7, 3) := by decide +kernel
theorem dX9_shaftOf_5 : decode cX9_shaftOf 5 = .ok (.if_icmp .ge 7, 3) := by decide +kernel
theorem dX9_shaftOf_8 : decode cX9_shaftOf 8 = .ok (.iload_n 1, 1) := by decide +kernel
theorem dX9_shaftOf_9 : decode cX9_shaftOf 9 = .ok (.goto 36, 3) := by decide +kernel
theorem dX9_shaftOf_12 : decode cX9_shaftOf 12 = .ok (.iload_n 1, 1) := by decide +kernel
theorem dX9_shaftOf_13 : decode cX9_shaftOf 13 = .ok (.iconst 2, 1) := by decide +kernel
theorem dX9_shaftOf_14 : decode cX9_shaftOf 14 = .ok (.aload_n 0, 1) := by decide +kernel
theorem dX9_shaftOf_15 : decode cX9_shaftOf 15 = .ok (.getfield 7, 3) := by decide +kernel
theorem dX9_shaftOf_18 : decode cX9_shaftOf 18 = .ok (.imul, 1) := by decide +kernel
theorem dX9_shaftOf_19 : decode cX9_shaftOf 19 = .ok (.iconst 1, 1) := by decide +kernel
theorem dX9_shaftOf_20 : decode cX9_shaftOf 20 = .ok (.isub, 1) := by decide +kernel
theorem dX9_shaftOf_21 : decode cX9_shaftOf 21 = .ok (.if_icmp .ge 14, 3) := by decide +kernel
theorem dX9_shaftOf_24 : decode cX9_shaftOf 24 = .ok (.iload_n 1, 1) := by decide +kernel
theorem dX9_shaftOf_25 : decode cX9_shaftOf 25 = .ok (.aload_n 0, 1) := by decide +kernel
theorem dX9_shaftOf_26 : decode cX9_shaftOf 26 = .ok (.getfield 7, 3) := by decide +kernel
theorem dX9_shaftOf_29 : decode cX9_shaftOf 29 = .ok (.isub, 1) := by decide +kernel
theorem dX9_shaftOf_30 : decode cX9_shaftOf 30 = .ok (.iconst 1, 1) := by decide +kernel
theorem dX9_shaftOf_31 : decode cX9_shaftOf 31 = .ok (.iadd, 1) := by decide +kernel
theorem dX9_shaftOf_32 : decode cX9_shaftOf 32 = .ok (.goto 13, 3) := by decide +kernel
theorem dX9_shaftOf_35 : decode cX9_shaftOf 35 = .ok (.aload_n 0, 1) := by decide +kernel
theorem dX9_shaftOf_36 : decode cX9_shaftOf 36 = .ok (.getfield 24, 3) := by decide +kernel
theorem dX9_shaftOf_39 : decode cX9_shaftOf 39 = .ok (.aload_n 0, 1) := by decide +kernel
theorem dX9_shaftOf_40 : decode cX9_shaftOf 40 = .ok (.iload_n 1, 1) := by decide +kernel
theorem dX9_shaftOf_41 : decode cX9_shaftOf 41 = .ok (.invokevirtual 123, 3) := by decide +kernel
theorem dX9_shaftOf_44 : decode cX9_shaftOf 44 = .ok (.iaload, 1) := by decide +kernel
theorem dX9_shaftOf_45 : decode cX9_shaftOf 45 = .ok (.ireturn, 1) := by decide +kernel
set_option maxRecDepth 20000 in
theorem ggX9_tonesOf_X9_kindOf : GoodIn wsX9_tonesOf wsX9_kindOf := goodIn_sub (am_cons (List.mem_cons_of_mem _ (List.mem_append_left _ (List.mem_of_getElem? (i := 4) rfl))) (am_app (am_cons (List.mem_cons_of_mem _ (List.mem_append_left _ (List.mem_of_getElem? (i := 5) rfl))) am_nil) (fun _ h => List.mem_cons_of_mem _ (List.mem_append_right _ (h))))) (by decide +kernel)
set_option maxRecDepth 20000 in
theorem gX9_tonesOf_X9_kindOf : GoodIn wsX9_tonesOf (wsV RX9 127 RX9 yX9_kindOf wsX9_kindOf) := goodIn_app (goodIn_sub (am_cons (List.mem_cons_of_mem _ (List.mem_append_left _ (List.mem_of_getElem? (i := 0) rfl))) (am_cons (List.mem_cons_of_mem _ (List.mem_append_left _ (List.mem_of_getElem? (i := 1) rfl))) (am_cons (List.mem_cons_of_mem _ (List.mem_append_left _ (List.mem_of_getElem? (i := 2) rfl))) (am_cons (List.mem_cons_of_mem _ (List.mem_append_left _ (List.mem_of_getElem? (i := 3) rfl))) am_nil)))) (by decide +kernel)) ggX9_tonesOf_X9_kindOf
theorem dX9_tonesOf_0 : decode cX9_tonesOf 0 = .ok (.aload_n 0, 1) := by decide +kernel
theorem dX9_tonesOf_1 : decode cX9_tonesOf 1 = .ok (.iload_n 1, 1) := by decide +kernel
theorem dX9_tonesOf_2 : decode cX9_tonesOf 2 = .ok (.invokevirtual 127, 3) := by decide +kernel
theorem dX9_tonesOf_5 : decode cX9_tonesOf 5 = .ok (.istore_n 2, 1) := by decide +kernel
theorem dX9_tonesOf_6 : decode cX9_tonesOf 6 = .ok (.iload_n 2, 1) := by decide +kernel
theorem dX9_tonesOf_7 : decode cX9_tonesOf 7 = .ok (.ifCond .eq 8, 3) := by decide +kernel
theorem dX9_tonesOf_10 : decode cX9_tonesOf 10 = .ok (.iload_n 2, 1) := by decide +kernel
theorem dX9_tonesOf_11 : decode cX9_tonesOf 11 = .ok (.iconst 3, 1) := by decide +kernel
theorem dX9_tonesOf_12 : decode cX9_tonesOf 12 = .ok (.if_icmp .ne 7, 3) := by decide +kernel
theorem dX9_tonesOf_15 : decode cX9_tonesOf 15 = .ok (.iconst 3, 1) := by decide +kernel
theorem dX9_tonesOf_16 : decode cX9_tonesOf 16 = .ok (.goto 13, 3) := by decide +kernel
theorem dX9_tonesOf_19 : decode cX9_tonesOf 19 = .ok (.iload_n 2, 1) := by decide +kernel
theorem dX9_tonesOf_20 : decode cX9_tonesOf 20 = .ok (.iconst 4, 1) := by decide +kernel
theorem dX9_tonesOf_21 : decode cX9_tonesOf 21 = .ok (.if_icmp .ne 7, 3) := by decide +kernel
theorem dX9_tonesOf_24 : decode cX9_tonesOf 24 = .ok (.iconst 1, 1) := by decide +kernel
theorem dX9_tonesOf_25 : decode cX9_tonesOf 25 = .ok (.goto 4, 3) := by decide +kernel
theorem dX9_tonesOf_28 : decode cX9_tonesOf 28 = .ok (.iconst 2, 1) := by decide +kernel
theorem dX9_tonesOf_29 : decode cX9_tonesOf 29 = .ok (.ireturn, 1) := by decide +kernel
set_option maxRecDepth 20000 in
theorem ggX9_part_X9_isPart : GoodIn wsX9_part wsX9_isPart := goodIn_sub (am_cons (List.mem_cons_of_mem _ (List.mem_append_left _ (List.mem_append_left _ (List.mem_of_getElem? (i := 4) rfl)))) (am_app (am_cons (List.mem_cons_of_mem _ (List.mem_append_left _ (List.mem_append_left _ (List.mem_of_getElem? (i := 5) rfl)))) (am_cons (List.mem_cons_of_mem _ (List.mem_append_left _ (List.mem_append_left _ (List.mem_of_getElem? (i := 6) rfl)))) (am_cons (List.mem_cons_of_mem _ (List.mem_append_left _ (List.mem_append_left _ (List.mem_of_getElem? (i := 7) rfl)))) (am_cons (List.mem_cons_of_mem _ (List.mem_append_left _ (List.mem_append_left _ (List.mem_of_getElem? (i := 3) rfl)))) (am_cons (List.mem_cons_of_mem _ (List.mem_append_left _ (List.mem_append_left _ (List.mem_of_getElem? (i := 8) rfl)))) (am_cons (List.mem_cons_of_mem _ (List.mem_append_left _ (List.mem_append_left _ (List.mem_of_getElem? (i := 9) rfl)))) (am_cons (List.mem_cons_of_mem _ (List.mem_append_left _ (List.mem_append_left _ (List.mem_of_getElem? (i := 10) rfl)))) (am_cons (List.mem_cons_of_mem _ (List.mem_append_left _ (List.mem_append_left _ (List.mem_of_getElem? (i := 11) rfl)))) (am_cons (List.mem_cons_of_mem _ (List.mem_append_left _ (List.mem_append_left _ (List.mem_of_getElem? (i := 12) rfl)))) (am_cons (List.mem_cons_of_mem _ (List.mem_append_left _ (List.mem_append_left _ (List.mem_of_getElem? (i := 13) rfl)))) am_nil)))))))))) (fun _ h => List.mem_cons_of_mem _ (List.mem_append_right _ (h))))) (by decide +kernel)
set_option maxRecDepth 20000 in
theorem gX9_part_X9_isPart : GoodIn wsX9_part (wsV RX9 130 RX9 yX9_isPart wsX9_isPart) := goodIn_app (goodIn_sub (am_cons (List.mem_cons_of_mem _ (List.mem_append_left _ (List.mem_append_left _ (List.mem_of_getElem? (i := 0) rfl)))) (am_cons (List.mem_cons_of_mem _ (List.mem_append_left _ (List.mem_append_left _ (List.mem_of_getElem? (i := 1) rfl)))) (am_cons (List.mem_cons_of_mem _ (List.mem_append_left _ (List.mem_append_left _ (List.mem_of_getElem? (i := 2) rfl)))) (am_cons (List.mem_cons_of_mem _ (List.mem_append_left _ (List.mem_append_left _ (List.mem_of_getElem? (i := 3) rfl)))) am_nil)))) (by decide +kernel)) ggX9_part_X9_isPart
set_option maxRecDepth 20000 in
theorem ggX9_part_X9_kindOf : GoodIn wsX9_part wsX9_kindOf := goodIn_sub (am_cons (List.mem_cons_of_mem _ (List.mem_append_left _ (List.mem_append_left _ (List.mem_of_getElem? (i := 17) rfl)))) (am_app (am_cons (List.mem_cons_of_mem _ (List.mem_append_left _ (List.mem_append_left _ (List.mem_of_getElem? (i := 9) rfl)))) am_nil) (fun _ h => List.mem_cons_of_mem _ (List.mem_append_right _ (h))))) (by decide +kernel)
set_option maxRecDepth 20000 in
theorem gX9_part_X9_kindOf : GoodIn wsX9_part (wsV RX9 127 RX9 yX9_kindOf wsX9_kindOf) := goodIn_app (goodIn_sub (am_cons (List.mem_cons_of_mem _ (List.mem_append_left _ (List.mem_append_left _ (List.mem_of_getElem? (i := 14) rfl)))) (am_cons (List.mem_cons_of_mem _ (List.mem_append_left _ (List.mem_append_left _ (List.mem_of_getElem? (i := 15) rfl)))) (am_cons (List.mem_cons_of_mem _ (List.mem_append_left _ (List.mem_append_left _ (List.mem_of_getElem? (i := 16) rfl)))) (am_cons (List.mem_cons_of_mem _ (List.mem_append_left _ (List.mem_append_left _ (List.mem_of_getElem? (i := 3) rfl)))) am_nil)))) (by decide +kernel)) ggX9_part_X9_kindOf
set_option maxRecDepth 20000 in
theorem ggX9_part_X9_shaftOf : GoodIn wsX9_part wsX9_shaftOf := goodIn_sub (am_cons (List.mem_cons_of_mem _ (List.mem_append_left _ (List.mem_append_left _ (List.mem_of_getElem? (i := 21) rfl)))) (am_app (am_cons (List.mem_cons_of_mem _ (List.mem_append_left _ (List.mem_append_left _ (List.mem_of_getElem? (i := 9) rfl)))) (am_cons (List.mem_cons_of_mem _ (List.mem_append_left _ (List.mem_append_left _ (List.mem_of_getElem? (i := 22) rfl)))) (am_cons (List.mem_cons_of_mem _ (List.mem_append_left _ (List.mem_append_left _ (List.mem_of_getElem? (i := 23) rfl)))) (am_cons (List.mem_cons_of_mem _ (List.mem_append_left _ (List.mem_append_right _ (List.mem_of_getElem? (i := 0) rfl)))) (am_cons (List.mem_cons_of_mem _ (List.mem_append_left _ (List.mem_append_right _ (List.mem_of_getElem? (i := 1) rfl)))) (am_cons (List.mem_cons_of_mem _ (List.mem_append_left _ (List.mem_append_left _ (List.mem_of_getElem? (i := 3) rfl)))) (am_cons (List.mem_cons_of_mem _ (List.mem_append_left _ (List.mem_append_right _ (List.mem_of_getElem? (i := 2) rfl)))) am_nil))))))) (fun _ h => List.mem_cons_of_mem _ (List.mem_append_right _ (h))))) (by decide +kernel)
set_option maxRecDepth 20000 in
theorem gX9_part_X9_shaftOf : GoodIn wsX9_part (wsV RX9 134 RX9 yX9_shaftOf wsX9_shaftOf) := goodIn_app (goodIn_sub (am_cons (List.mem_cons_of_mem _ (List.mem_append_left _ (List.mem_append_left _ (List.mem_of_getElem? (i := 18) rfl)))) (am_cons (List.mem_cons_of_mem _ (List.mem_append_left _ (List.mem_append_left _ (List.mem_of_getElem? (i := 19) rfl)))) (am_cons (List.mem_cons_of_mem _ (List.mem_append_left _ (List.mem_append_left _ (List.mem_of_getElem? (i := 20) rfl)))) (am_cons (List.mem_cons_of_mem _ (List.mem_append_left _ (List.mem_append_left _ (List.mem_of_getElem? (i := 3) rfl)))) am_nil)))) (by decide +kernel)) ggX9_part_X9_shaftOf
set_option maxRecDepth 20000 in
theorem ggX9_part_X9_tonesOf : GoodIn wsX9_part wsX9_tonesOf := goodIn_sub (am_cons (List.mem_cons_of_mem _ (List.mem_append_left _ (List.mem_append_right _ (List.mem_of_getElem? (i := 6) rfl)))) (am_app (am_cons (List.mem_cons_of_mem _ (List.mem_append_left _ (List.mem_append_left _ (List.mem_of_getElem? (i := 14) rfl)))) (am_cons (List.mem_cons_of_mem _ (List.mem_append_left _ (List.mem_append_left _ (List.mem_of_getElem? (i := 15) rfl)))) (am_cons (List.mem_cons_of_mem _ (List.mem_append_left _ (List.mem_append_left _ (List.mem_of_getElem? (i := 16) rfl)))) (am_cons (List.mem_cons_of_mem _ (List.mem_append_left _ (List.mem_append_left _ (List.mem_of_getElem? (i := 3) rfl)))) (am_cons (List.mem_cons_of_mem _ (List.mem_append_left _ (List.mem_append_left _ (List.mem_of_getElem? (i := 17) rfl)))) (am_cons (List.mem_cons_of_mem _ (List.mem_append_left _ (List.mem_append_left _ (List.mem_of_getElem? (i := 9) rfl)))) am_nil)))))) (fun _ h => List.mem_cons_of_mem _ (List.mem_append_right _ (h))))) (by decide +kernel)
set_option maxRecDepth 20000 in
theorem gX9_part_X9_tonesOf : GoodIn wsX9_part (wsV RX9 137 RX9 yX9_tonesOf wsX9_tonesOf) := goodIn_app (goodIn_sub (am_cons (List.mem_cons_of_mem _ (List.mem_append_left _ (List.mem_append_right _ (List.mem_of_getElem? (i := 3) rfl)))) (am_cons (List.mem_cons_of_mem _ (List.mem_append_left _ (List.mem_append_right _ (List.mem_of_getElem? (i := 4) rfl)))) (am_cons (List.mem_cons_of_mem _ (List.mem_append_left _ (List.mem_append_right _ (List.mem_of_getElem? (i := 5) rfl)))) (am_cons (List.mem_cons_of_mem _ (List.mem_append_left _ (List.mem_append_left _ (List.mem_of_getElem? (i := 3) rfl)))) am_nil)))) (by decide +kernel)) ggX9_part_X9_tonesOf
theorem dX9_part_0 : decode cX9_part 0 = .ok (.aload_n 0, 1) := by decide +kernel
theorem dX9_part_1 : decode cX9_part 1 = .ok (.iload_n 1, 1) := by decide +kernel
theorem dX9_part_2 : decode cX9_part 2 = .ok (.invokevirtual 130, 3) := by decide +kernel
theorem dX9_part_5 : decode cX9_part 5 = .ok (.ifCond .ne 7, 3) := by decide +kernel
theorem dX9_part_8 : decode cX9_part 8 = .ok (.iconst (-1), 1) := by decide +kernel
theorem dX9_part_9 : decode cX9_part 9 = .ok (.goto 42, 3) := by decide +kernel
theorem dX9_part_12 : decode cX9_part 12 = .ok (.iload_n 2, 1) := by decide +kernel
theorem dX9_part_13 : decode cX9_part 13 = .ok (.ifCond .ne 11, 3) := by decide +kernel
theorem dX9_part_16 : decode cX9_part 16 = .ok (.aload_n 0, 1) := by decide +kernel
theorem dX9_part_17 : decode cX9_part 17 = .ok (.iload_n 1, 1) := by decide +kernel
theorem dX9_part_18 : decode cX9_part 18 = .ok (.invokevirtual 127, 3) := by decide +kernel
theorem dX9_part_21 : decode cX9_part 21 = .ok (.goto 30, 3) := by decide +kernel
theorem dX9_part_24 : decode cX9_part 24 = .ok (.iload_n 2, 1) := by decide +kernel
theorem dX9_part_25 : decode cX9_part 25 = .ok (.iconst 1, 1) := by decide +kernel
theorem dX9_part_26 : decode cX9_part 26 = .ok (.if_icmp .ne 11, 3) := by decide +kernel
theorem dX9_part_29 : decode cX9_part 29 = .ok (.aload_n 0, 1) := by decide +kernel
theorem dX9_part_30 : decode cX9_part 30 = .ok (.iload_n 1, 1) := by decide +kernel
theorem dX9_part_31 : decode cX9_part 31 = .ok (.invokevirtual 134, 3) := by decide +kernel
theorem dX9_part_34 : decode cX9_part 34 = .ok (.goto 17, 3) := by decide +kernel
theorem dX9_part_37 : decode cX9_part 37 = .ok (.iload_n 2, 1) := by decide +kernel
theorem dX9_part_38 : decode cX9_part 38 = .ok (.iconst 2, 1) := by decide +kernel
theorem dX9_part_39 : decode cX9_part 39 = .ok (.if_icmp .ne 11, 3) := by decide +kernel
theorem dX9_part_42 : decode cX9_part 42 = .ok (.aload_n 0, 1) := by decide +kernel
theorem dX9_part_43 : decode cX9_part 43 = .ok (.iload_n 1, 1) := by decide +kernel
theorem dX9_part_44 : decode cX9_part 44 = .ok (.invokevirtual 137, 3) := by decide +kernel
theorem dX9_part_47 : decode cX9_part 47 = .ok (.goto 4, 3) := by decide +kernel
theorem dX9_part_50 : decode cX9_part 50 = .ok (.iconst (-1), 1) := by decide +kernel
theorem dX9_part_51 : decode cX9_part 51 = .ok (.ireturn, 1) := by decide +kernel
set_option maxRecDepth 20000 in
theorem ggX9_findTone_X9_kindOf : GoodIn wsX9_findTone wsX9_kindOf := goodIn_sub (am_cons (List.mem_cons_of_mem _ (List.mem_append_left _ (List.mem_append_left _ (List.mem_of_getElem? (i := 11) rfl)))) (am_app (am_cons (List.mem_cons_of_mem _ (List.mem_append_left _ (List.mem_append_left _ (List.mem_of_getElem? (i := 12) rfl)))) am_nil) (fun _ h => List.mem_cons_of_mem _ (List.mem_append_right _ (h))))) (by decide +kernel)
set_option maxRecDepth 20000 in
theorem gX9_findTone_X9_kindOf : GoodIn wsX9_findTone (wsV RX9 127 RX9 yX9_kindOf wsX9_kindOf) := goodIn_app (goodIn_sub (am_cons (List.mem_cons_of_mem _ (List.mem_append_left _ (List.mem_append_left _ (List.mem_of_getElem? (i := 7) rfl)))) (am_cons (List.mem_cons_of_mem _ (List.mem_append_left _ (List.mem_append_left _ (List.mem_of_getElem? (i := 8) rfl)))) (am_cons (List.mem_cons_of_mem _ (List.mem_append_left _ (List.mem_append_left _ (List.mem_of_getElem? (i := 9) rfl)))) (am_cons (List.mem_cons_of_mem _ (List.mem_append_left _ (List.mem_append_left _ (List.mem_of_getElem? (i := 10) rfl)))) am_nil)))) (by decide +kernel)) ggX9_findTone_X9_kindOf
set_option maxRecDepth 20000 in
theorem ggX9_findTone_X9_shaftOf : GoodIn wsX9_findTone wsX9_shaftOf := goodIn_sub (am_cons (List.mem_cons_of_mem _ (List.mem_append_left _ (List.mem_append_left _ (List.mem_of_getElem? (i := 16) rfl)))) (am_app (am_cons (List.mem_cons_of_mem _ (List.mem_append_left _ (List.mem_append_left _ (List.mem_of_getElem? (i := 12) rfl)))) (am_cons (List.mem_cons_of_mem _ (List.mem_append_left _ (List.mem_append_left _ (List.mem_of_getElem? (i := 17) rfl)))) (am_cons (List.mem_cons_of_mem _ (List.mem_append_left _ (List.mem_append_left _ (List.mem_of_getElem? (i := 18) rfl)))) (am_cons (List.mem_cons_of_mem _ (List.mem_append_left _ (List.mem_append_left _ (List.mem_of_getElem? (i := 19) rfl)))) (am_cons (List.mem_cons_of_mem _ (List.mem_append_left _ (List.mem_append_left _ (List.mem_of_getElem? (i := 20) rfl)))) (am_cons (List.mem_cons_of_mem _ (List.mem_append_left _ (List.mem_append_left _ (List.mem_of_getElem? (i := 10) rfl)))) (am_cons (List.mem_cons_of_mem _ (List.mem_append_left _ (List.mem_append_left _ (List.mem_of_getElem? (i := 21) rfl)))) am_nil))))))) (fun _ h => List.mem_cons_of_mem _ (List.mem_append_right _ (h))))) (by decide +kernel)
set_option maxRecDepth 20000 in
theorem gX9_findTone_X9_shaftOf : GoodIn wsX9_findTone (wsV RX9 134 RX9 yX9_shaftOf wsX9_shaftOf) := goodIn_app (goodIn_sub (am_cons (List.mem_cons_of_mem _ (List.mem_append_left _ (List.mem_append_left _ (List.mem_of_getElem? (i := 13) rfl)))) (am_cons (List.mem_cons_of_mem _ (List.mem_append_left _ (List.mem_append_left _ (List.mem_of_getElem? (i := 14) rfl)))) (am_cons (List.mem_cons_of_mem _ (List.mem_append_left _ (List.mem_append_left _ (List.mem_of_getElem? (i := 15) rfl)))) (am_cons (List.mem_cons_of_mem _ (List.mem_append_left _ (List.mem_append_left _ (List.mem_of_getElem? (i := 10) rfl)))) am_nil)))) (by decide +kernel)) ggX9_findTone_X9_shaftOf
set_option maxRecDepth 20000 in
theorem ggX9_findTone_X9_ringOf : GoodIn wsX9_findTone wsX9_ringOf := goodIn_sub (am_cons (List.mem_cons_of_mem _ (List.mem_append_left _ (List.mem_append_left _ (List.mem_of_getElem? (i := 21) rfl)))) (am_app (am_cons (List.mem_cons_of_mem _ (List.mem_append_left _ (List.mem_append_left _ (List.mem_of_getElem? (i := 12) rfl)))) am_nil) (fun _ h => List.mem_cons_of_mem _ (List.mem_append_right _ (h))))) (by decide +kernel)
set_option maxRecDepth 20000 in
theorem gX9_findTone_X9_ringOf : GoodIn wsX9_findTone (wsV RX9 123 RX9 yX9_ringOf wsX9_ringOf) := goodIn_app (goodIn_sub (am_cons (List.mem_cons_of_mem _ (List.mem_append_left _ (List.mem_append_left _ (List.mem_of_getElem? (i := 18) rfl)))) (am_cons (List.mem_cons_of_mem _ (List.mem_append_left _ (List.mem_append_left _ (List.mem_of_getElem? (i := 19) rfl)))) (am_cons (List.mem_cons_of_mem _ (List.mem_append_left _ (List.mem_append_left _ (List.mem_of_getElem? (i := 20) rfl)))) (am_cons (List.mem_cons_of_mem _ (List.mem_append_left _ (List.mem_append_left _ (List.mem_of_getElem? (i := 10) rfl)))) am_nil)))) (by decide +kernel)) ggX9_findTone_X9_ringOf
set_option maxRecDepth 20000 in
theorem ggX9_findTone_X9_reduce : GoodIn wsX9_findTone wsX9_reduce := goodIn_sub (am_cons (List.mem_cons_of_mem _ (List.mem_append_left _ (List.mem_append_right _ (List.mem_of_getElem? (i := 1) rfl)))) (am_app (am_cons (List.mem_cons_of_mem _ (List.mem_append_left _ (List.mem_append_right _ (List.mem_of_getElem? (i := 2) rfl)))) (am_cons (List.mem_cons_of_mem _ (List.mem_append_left _ (List.mem_append_right _ (List.mem_of_getElem? (i := 3) rfl)))) am_nil)) (fun _ h => List.mem_cons_of_mem _ (List.mem_append_right _ (h))))) (by decide +kernel)
set_option maxRecDepth 20000 in
theorem gX9_findTone_X9_reduce : GoodIn wsX9_findTone (wsV RX9 104 RX9 yX9_reduce wsX9_reduce) := goodIn_app (goodIn_sub (am_cons (List.mem_cons_of_mem _ (List.mem_append_left _ (List.mem_append_left _ (List.mem_of_getElem? (i := 22) rfl)))) (am_cons (List.mem_cons_of_mem _ (List.mem_append_left _ (List.mem_append_left _ (List.mem_of_getElem? (i := 23) rfl)))) (am_cons (List.mem_cons_of_mem _ (List.mem_append_left _ (List.mem_append_right _ (List.mem_of_getElem? (i := 0) rfl)))) (am_cons (List.mem_cons_of_mem _ (List.mem_append_left _ (List.mem_append_left _ (List.mem_of_getElem? (i := 10) rfl)))) am_nil)))) (by decide +kernel)) ggX9_findTone_X9_reduce
theorem dX9_findTone_0 : decode cX9_findTone 0 = .ok (.aload_n 0, 1) := by decide +kernel
theorem dX9_findTone_1 : decode cX9_findTone 1 = .ok (.iload_n 1, 1) := by decide +kernel
theorem dX9_findTone_2 : decode cX9_findTone 2 = .ok (.invokevirtual 127, 3) := by decide +kernel
theorem dX9_findTone_5 : decode cX9_findTone 5 = .ok (.istore_n 3, 1) := by decide +kernel
theorem dX9_findTone_6 : decode cX9_findTone 6 = .ok (.aload_n 0, 1) := by decide +kernel
theorem dX9_findTone_7 : decode cX9_findTone 7 = .ok (.iload_n 1, 1) := by decide +kernel
theorem dX9_findTone_8 : decode cX9_findTone 8 = .ok (.invokevirtual 134, 3) := by decide +kernel
theorem dX9_findTone_11 : decode cX9_findTone 11 = .ok (.istore 4, 2) := by decide +kernel
theorem dX9_findTone_13 : decode cX9_findTone 13 = .ok (.iload_n 2, 1) := by decide +kernel
theorem dX9_findTone_14 : decode cX9_findTone 14 = .ok (.i2l, 1) := by decide +kernel
theorem dX9_findTone_15 : decode cX9_findTone 15 = .ok (.lconst 1, 1) := by decide +kernel
theorem dX9_findTone_16 : decode cX9_findTone 16 = .ok (.ladd, 1) := by decide +kernel
theorem dX9_findTone_17 : decode cX9_findTone 17 = .ok (.lstore 5, 2) := by decide +kernel
theorem dX9_findTone_19 : decode cX9_findTone 19 = .ok (.lconst 1, 1) := by decide +kernel
theorem dX9_findTone_20 : decode cX9_findTone 20 = .ok (.lstore 7, 2) := by decide +kernel
theorem dX9_findTone_22 : decode cX9_findTone 22 = .ok (.iload_n 3, 1) := by decide +kernel
theorem dX9_findTone_23 : decode cX9_findTone 23 = .ok (.iconst 1, 1) := by decide +kernel
theorem dX9_findTone_24 : decode cX9_findTone 24 = .ok (.if_icmp .ne 21, 3) := by decide +kernel
theorem dX9_findTone_27 : decode cX9_findTone 27 = .ok (.iload_n 2, 1) := by decide +kernel
theorem dX9_findTone_28 : decode cX9_findTone 28 = .ok (.i2l, 1) := by decide +kernel
theorem dX9_findTone_29 : decode cX9_findTone 29 = .ok (.lconst 1, 1) := by decide +kernel
theorem dX9_findTone_30 : decode cX9_findTone 30 = .ok (.ladd, 1) := by decide +kernel
theorem dX9_findTone_31 : decode cX9_findTone 31 = .ok (.aload_n 0, 1) := by decide +kernel
theorem dX9_findTone_32 : decode cX9_findTone 32 = .ok (.getfield 20, 3) := by decide +kernel
theorem dX9_findTone_35 : decode cX9_findTone 35 = .ok (.iload 4, 2) := by decide +kernel
theorem dX9_findTone_37 : decode cX9_findTone 37 = .ok (.iaload, 1) := by decide +kernel
theorem dX9_findTone_38 : decode cX9_findTone 38 = .ok (.i2l, 1) := by decide +kernel
theorem dX9_findTone_39 : decode cX9_findTone 39 = .ok (.lmul, 1) := by decide +kernel
theorem dX9_findTone_40 : decode cX9_findTone 40 = .ok (.lstore 5, 2) := by decide +kernel
theorem dX9_findTone_42 : decode cX9_findTone 42 = .ok (.goto 161, 3) := by decide +kernel
theorem dX9_findTone_45 : decode cX9_findTone 45 = .ok (.iload_n 3, 1) := by decide +kernel
theorem dX9_findTone_46 : decode cX9_findTone 46 = .ok (.iconst 1, 1) := by decide +kernel
theorem dX9_findTone_47 : decode cX9_findTone 47 = .ok (.if_icmp .le 156, 3) := by decide +kernel
theorem dX9_findTone_50 : decode cX9_findTone 50 = .ok (.aload_n 0, 1) := by decide +kernel
theorem dX9_findTone_51 : decode cX9_findTone 51 = .ok (.iload_n 1, 1) := by decide +kernel
theorem dX9_findTone_52 : decode cX9_findTone 52 = .ok (.invokevirtual 123, 3) := by decide +kernel
theorem dX9_findTone_55 : decode cX9_findTone 55 = .ok (.istore 9, 2) := by decide +kernel
theorem dX9_findTone_57 : decode cX9_findTone 57 = .ok (.aload_n 0, 1) := by decide +kernel
theorem dX9_findTone_58 : decode cX9_findTone 58 = .ok (.getfield 30, 3) := by decide +kernel
theorem dX9_findTone_61 : decode cX9_findTone 61 = .ok (.iload 9, 2) := by decide +kernel
theorem dX9_findTone_63 : decode cX9_findTone 63 = .ok (.iaload, 1) := by decide +kernel
theorem dX9_findTone_64 : decode cX9_findTone 64 = .ok (.i2l, 1) := by decide +kernel
theorem dX9_findTone_65 : decode cX9_findTone 65 = .ok (.lstore 10, 2) := by decide +kernel
theorem dX9_findTone_67 : decode cX9_findTone 67 = .ok (.aload_n 0, 1) := by decide +kernel
theorem dX9_findTone_68 : decode cX9_findTone 68 = .ok (.getfield 33, 3) := by decide +kernel
theorem dX9_findTone_71 : decode cX9_findTone 71 = .ok (.iload 9, 2) := by decide +kernel
theorem dX9_findTone_73 : decode cX9_findTone 73 = .ok (.iaload, 1) := by decide +kernel
theorem dX9_findTone_74 : decode cX9_findTone 74 = .ok (.i2l, 1) := by decide +kernel
theorem dX9_findTone_75 : decode cX9_findTone 75 = .ok (.lstore 12, 2) := by decide +kernel
theorem dX9_findTone_77 : decode cX9_findTone 77 = .ok (.iload_n 3, 1) := by decide +kernel
theorem dX9_findTone_78 : decode cX9_findTone 78 = .ok (.iconst 5, 1) := by decide +kernel
theorem dX9_findTone_79 : decode cX9_findTone 79 = .ok (.if_icmp .ne 15, 3) := by decide +kernel
theorem dX9_findTone_82 : decode cX9_findTone 82 = .ok (.ldc2_w 140, 3) := by decide +kernel
theorem dX9_findTone_85 : decode cX9_findTone 85 = .ok (.lload 10, 2) := by decide +kernel
theorem dX9_findTone_87 : decode cX9_findTone 87 = .ok (.lmul, 1) := by decide +kernel
theorem dX9_findTone_88 : decode cX9_findTone 88 = .ok (.lload 12, 2) := by decide +kernel
theorem dX9_findTone_90 : decode cX9_findTone 90 = .ok (.lmul, 1) := by decide +kernel
theorem dX9_findTone_91 : decode cX9_findTone 91 = .ok (.goto 9, 3) := by decide +kernel
theorem dX9_findTone_94 : decode cX9_findTone 94 = .ok (.ldc2_w 140, 3) := by decide +kernel
theorem dX9_findTone_97 : decode cX9_findTone 97 = .ok (.lload 12, 2) := by decide +kernel
theorem dX9_findTone_99 : decode cX9_findTone 99 = .ok (.lmul, 1) := by decide +kernel
theorem dX9_findTone_100 : decode cX9_findTone 100 = .ok (.lstore 7, 2) := by decide +kernel
theorem dX9_findTone_102 : decode cX9_findTone 102 = .ok (.iload_n 3, 1) := by decide +kernel
theorem dX9_findTone_103 : decode cX9_findTone 103 = .ok (.iconst 2, 1) := by decide +kernel
theorem dX9_findTone_104 : decode cX9_findTone 104 = .ok (.if_icmp .ne 20, 3) := by decide +kernel
theorem dX9_findTone_107 : decode cX9_findTone 107 = .ok (.aload_n 0, 1) := by decide +kernel
theorem dX9_findTone_108 : decode cX9_findTone 108 = .ok (.getfield 27, 3) := by decide +kernel
theorem dX9_findTone_111 : decode cX9_findTone 111 = .ok (.iload 9, 2) := by decide +kernel
theorem dX9_findTone_113 : decode cX9_findTone 113 = .ok (.iaload, 1) := by decide +kernel
theorem dX9_findTone_114 : decode cX9_findTone 114 = .ok (.i2l, 1) := by decide +kernel
theorem dX9_findTone_115 : decode cX9_findTone 115 = .ok (.lload 12, 2) := by decide +kernel
theorem dX9_findTone_117 : decode cX9_findTone 117 = .ok (.lload 10, 2) := by decide +kernel
theorem dX9_findTone_119 : decode cX9_findTone 119 = .ok (.lsub, 1) := by decide +kernel
theorem dX9_findTone_120 : decode cX9_findTone 120 = .ok (.lmul, 1) := by decide +kernel
theorem dX9_findTone_121 : decode cX9_findTone 121 = .ok (.goto 49, 3) := by decide +kernel
theorem dX9_findTone_124 : decode cX9_findTone 124 = .ok (.iload_n 3, 1) := by decide +kernel
theorem dX9_findTone_125 : decode cX9_findTone 125 = .ok (.iconst 3, 1) := by decide +kernel
theorem dX9_findTone_126 : decode cX9_findTone 126 = .ok (.if_icmp .ne 20, 3) := by decide +kernel
theorem dX9_findTone_129 : decode cX9_findTone 129 = .ok (.aload_n 0, 1) := by decide +kernel
theorem dX9_findTone_130 : decode cX9_findTone 130 = .ok (.getfield 27, 3) := by decide +kernel
theorem dX9_findTone_133 : decode cX9_findTone 133 = .ok (.iload 9, 2) := by decide +kernel
theorem dX9_findTone_135 : decode cX9_findTone 135 = .ok (.iaload, 1) := by decide +kernel
theorem dX9_findTone_136 : decode cX9_findTone 136 = .ok (.i2l, 1) := by decide +kernel
theorem dX9_findTone_137 : decode cX9_findTone 137 = .ok (.lload 12, 2) := by decide +kernel
theorem dX9_findTone_139 : decode cX9_findTone 139 = .ok (.lload 10, 2) := by decide +kernel
theorem dX9_findTone_141 : decode cX9_findTone 141 = .ok (.ladd, 1) := by decide +kernel
theorem dX9_findTone_142 : decode cX9_findTone 142 = .ok (.lmul, 1) := by decide +kernel
theorem dX9_findTone_143 : decode cX9_findTone 143 = .ok (.goto 27, 3) := by decide +kernel
theorem dX9_findTone_146 : decode cX9_findTone 146 = .ok (.iload_n 3, 1) := by decide +kernel
theorem dX9_findTone_147 : decode cX9_findTone 147 = .ok (.iconst 4, 1) := by decide +kernel
theorem dX9_findTone_148 : decode cX9_findTone 148 = .ok (.if_icmp .ne 11, 3) := by decide +kernel
theorem dX9_findTone_151 : decode cX9_findTone 151 = .ok (.lload 12, 2) := by decide +kernel
theorem dX9_findTone_153 : decode cX9_findTone 153 = .ok (.lload 10, 2) := by decide +kernel
theorem dX9_findTone_155 : decode cX9_findTone 155 = .ok (.lsub, 1) := by decide +kernel
theorem dX9_findTone_156 : decode cX9_findTone 156 = .ok (.goto 14, 3) := by decide +kernel
theorem dX9_findTone_159 : decode cX9_findTone 159 = .ok (.lload 12, 2) := by decide +kernel
theorem dX9_findTone_161 : decode cX9_findTone 161 = .ok (.lload 12, 2) := by decide +kernel
theorem dX9_findTone_163 : decode cX9_findTone 163 = .ok (.lmul, 1) := by decide +kernel
theorem dX9_findTone_164 : decode cX9_findTone 164 = .ok (.lload 10, 2) := by decide +kernel
theorem dX9_findTone_166 : decode cX9_findTone 166 = .ok (.lload 10, 2) := by decide +kernel
theorem dX9_findTone_168 : decode cX9_findTone 168 = .ok (.lmul, 1) := by decide +kernel
theorem dX9_findTone_169 : decode cX9_findTone 169 = .ok (.lsub, 1) := by decide +kernel
theorem dX9_findTone_170 : decode cX9_findTone 170 = .ok (.lstore 5, 2) := by decide +kernel
theorem dX9_findTone_172 : decode cX9_findTone 172 = .ok (.iload_n 2, 1) := by decide +kernel
theorem dX9_findTone_173 : decode cX9_findTone 173 = .ok (.iconst 1, 1) := by decide +kernel
theorem dX9_findTone_174 : decode cX9_findTone 174 = .ok (.if_icmp .ne 12, 3) := by decide +kernel
theorem dX9_findTone_177 : decode cX9_findTone 177 = .ok (.ldc2_w 140, 3) := by decide +kernel
theorem dX9_findTone_180 : decode cX9_findTone 180 = .ok (.lload 5, 2) := by decide +kernel
theorem dX9_findTone_182 : decode cX9_findTone 182 = .ok (.lmul, 1) := by decide +kernel
theorem dX9_findTone_183 : decode cX9_findTone 183 = .ok (.goto 18, 3) := by decide +kernel
theorem dX9_findTone_186 : decode cX9_findTone 186 = .ok (.iload_n 2, 1) := by decide +kernel
theorem dX9_findTone_187 : decode cX9_findTone 187 = .ok (.iconst 2, 1) := by decide +kernel
theorem dX9_findTone_188 : decode cX9_findTone 188 = .ok (.if_icmp .ne 11, 3) := by decide +kernel
theorem dX9_findTone_191 : decode cX9_findTone 191 = .ok (.lload 5, 2) := by decide +kernel
theorem dX9_findTone_193 : decode cX9_findTone 193 = .ok (.lload 7, 2) := by decide +kernel
theorem dX9_findTone_195 : decode cX9_findTone 195 = .ok (.lsub, 1) := by decide +kernel
theorem dX9_findTone_196 : decode cX9_findTone 196 = .ok (.goto 5, 3) := by decide +kernel
theorem dX9_findTone_199 : decode cX9_findTone 199 = .ok (.lload 5, 2) := by decide +kernel
theorem dX9_findTone_201 : decode cX9_findTone 201 = .ok (.lstore 5, 2) := by decide +kernel
theorem dX9_findTone_203 : decode cX9_findTone 203 = .ok (.aload_n 0, 1) := by decide +kernel
theorem dX9_findTone_204 : decode cX9_findTone 204 = .ok (.aload_n 0, 1) := by decide +kernel
theorem dX9_findTone_205 : decode cX9_findTone 205 = .ok (.getfield 13, 3) := by decide +kernel
theorem dX9_findTone_208 : decode cX9_findTone 208 = .ok (.iload 4, 2) := by decide +kernel
theorem dX9_findTone_210 : decode cX9_findTone 210 = .ok (.laload, 1) := by decide +kernel
theorem dX9_findTone_211 : decode cX9_findTone 211 = .ok (.lload 5, 2) := by decide +kernel
theorem dX9_findTone_213 : decode cX9_findTone 213 = .ok (.lmul, 1) := by decide +kernel
theorem dX9_findTone_214 : decode cX9_findTone 214 = .ok (.aload_n 0, 1) := by decide +kernel
theorem dX9_findTone_215 : decode cX9_findTone 215 = .ok (.getfield 17, 3) := by decide +kernel
theorem dX9_findTone_218 : decode cX9_findTone 218 = .ok (.iload 4, 2) := by decide +kernel
theorem dX9_findTone_220 : decode cX9_findTone 220 = .ok (.laload, 1) := by decide +kernel
theorem dX9_findTone_221 : decode cX9_findTone 221 = .ok (.lload 7, 2) := by decide +kernel
theorem dX9_findTone_223 : decode cX9_findTone 223 = .ok (.lmul, 1) := by decide +kernel
theorem dX9_findTone_224 : decode cX9_findTone 224 = .ok (.invokevirtual 104, 3) := by decide +kernel
theorem dX9_findTone_227 : decode cX9_findTone 227 = .ok (.return_, 1) := by decide +kernel
set_option maxRecDepth 20000 in
theorem ggX9_tone_X9_isPart : GoodIn wsX9_tone wsX9_isPart := goodIn_sub (am_cons (List.mem_cons_of_mem _ (List.mem_append_left _ (List.mem_append_left _ (List.mem_of_getElem? (i := 7) rfl)))) (am_app (am_cons (List.mem_cons_of_mem _ (List.mem_append_left _ (List.mem_append_left _ (List.mem_of_getElem? (i := 8) rfl)))) (am_cons (List.mem_cons_of_mem _ (List.mem_append_left _ (List.mem_append_left _ (List.mem_of_getElem? (i := 9) rfl)))) (am_cons (List.mem_cons_of_mem _ (List.mem_append_left _ (List.mem_append_left _ (List.mem_of_getElem? (i := 10) rfl)))) (am_cons (List.mem_cons_of_mem _ (List.mem_append_left _ (List.mem_append_left _ (List.mem_of_getElem? (i := 6) rfl)))) (am_cons (List.mem_cons_of_mem _ (List.mem_append_left _ (List.mem_append_left _ (List.mem_of_getElem? (i := 11) rfl)))) (am_cons (List.mem_cons_of_mem _ (List.mem_append_left _ (List.mem_append_left _ (List.mem_of_getElem? (i := 12) rfl)))) (am_cons (List.mem_cons_of_mem _ (List.mem_append_left _ (List.mem_append_left _ (List.mem_of_getElem? (i := 13) rfl)))) (am_cons (List.mem_cons_of_mem _ (List.mem_append_left _ (List.mem_append_left _ (List.mem_of_getElem? (i := 14) rfl)))) (am_cons (List.mem_cons_of_mem _ (List.mem_append_left _ (List.mem_append_left _ (List.mem_of_getElem? (i := 15) rfl)))) (am_cons (List.mem_cons_of_mem _ (List.mem_append_left _ (List.mem_append_left _ (List.mem_of_getElem? (i := 16) rfl)))) am_nil)))))))))) (fun _ h => List.mem_cons_of_mem _ (List.mem_append_right _ (h))))) (by decide +kernel)
set_option maxRecDepth 20000 in
theorem gX9_tone_X9_isPart : GoodIn wsX9_tone (wsV RX9 130 RX9 yX9_isPart wsX9_isPart) := goodIn_app (goodIn_sub (am_cons (List.mem_cons_of_mem _ (List.mem_append_left _ (List.mem_append_left _ (List.mem_of_getElem? (i := 3) rfl)))) (am_cons (List.mem_cons_of_mem _ (List.mem_append_left _ (List.mem_append_left _ (List.mem_of_getElem? (i := 4) rfl)))) (am_cons (List.mem_cons_of_mem _ (List.mem_append_left _ (List.mem_append_left _ (List.mem_of_getElem? (i := 5) rfl)))) (am_cons (List.mem_cons_of_mem _ (List.mem_append_left _ (List.mem_append_left _ (List.mem_of_getElem? (i := 6) rfl)))) am_nil)))) (by decide +kernel)) ggX9_tone_X9_isPart
set_option maxRecDepth 20000 in
theorem ggX9_tone_X9_tonesOf : GoodIn wsX9_tone wsX9_tonesOf := goodIn_sub (am_cons (List.mem_cons_of_mem _ (List.mem_append_left _ (List.mem_append_left _ (List.mem_of_getElem? (i := 20) rfl)))) (am_app (am_cons (List.mem_cons_of_mem _ (List.mem_append_left _ (List.mem_append_left _ (List.mem_of_getElem? (i := 21) rfl)))) (am_cons (List.mem_cons_of_mem _ (List.mem_append_left _ (List.mem_append_left _ (List.mem_of_getElem? (i := 22) rfl)))) (am_cons (List.mem_cons_of_mem _ (List.mem_append_left _ (List.mem_append_left _ (List.mem_of_getElem? (i := 23) rfl)))) (am_cons (List.mem_cons_of_mem _ (List.mem_append_left _ (List.mem_append_left _ (List.mem_of_getElem? (i := 6) rfl)))) (am_cons (List.mem_cons_of_mem _ (List.mem_append_left _ (List.mem_append_right _ (List.mem_append_left _ (List.mem_of_getElem? (i := 0) rfl))))) (am_cons (List.mem_cons_of_mem _ (List.mem_append_left _ (List.mem_append_left _ (List.mem_of_getElem? (i := 12) rfl)))) am_nil)))))) (fun _ h => List.mem_cons_of_mem _ (List.mem_append_right _ (h))))) (by decide +kernel)
set_option maxRecDepth 20000 in
theorem gX9_tone_X9_tonesOf : GoodIn wsX9_tone (wsV RX9 137 RX9 yX9_tonesOf wsX9_tonesOf) := goodIn_app (goodIn_sub (am_cons (List.mem_cons_of_mem _ (List.mem_append_left _ (List.mem_append_left _ (List.mem_of_getElem? (i := 17) rfl)))) (am_cons (List.mem_cons_of_mem _ (List.mem_append_left _ (List.mem_append_left _ (List.mem_of_getElem? (i := 18) rfl)))) (am_cons (List.mem_cons_of_mem _ (List.mem_append_left _ (List.mem_append_left _ (List.mem_of_getElem? (i := 19) rfl)))) (am_cons (List.mem_cons_of_mem _ (List.mem_append_left _ (List.mem_append_left _ (List.mem_of_getElem? (i := 6) rfl)))) am_nil)))) (by decide +kernel)) ggX9_tone_X9_tonesOf
set_option maxRecDepth 20000 in
theorem ggX9_tone_X9_in : GoodIn wsX9_tone wsX9_in := goodIn_sub (am_cons (List.mem_cons_of_mem _ (List.mem_append_left _ (List.mem_append_left _ (List.mem_of_getElem? (i := 16) rfl)))) (am_nil)) (by decide +kernel)
set_option maxRecDepth 20000 in
theorem gX9_tone_X9_in : GoodIn wsX9_tone (va_wsS RX9 96 yX9_in wsX9_in) := goodIn_app (goodIn_sub (am_cons (List.mem_cons_of_mem _ (List.mem_append_left _ (List.mem_append_left _ (List.mem_of_getElem? (i := 14) rfl)))) (am_cons (List.mem_cons_of_mem _ (List.mem_append_left _ (List.mem_append_left _ (List.mem_of_getElem? (i := 15) rfl)))) (am_cons (List.mem_cons_of_mem _ (List.mem_append_left _ (List.mem_append_left _ (List.mem_of_getElem? (i := 6) rfl)))) am_nil))) (by decide +kernel)) ggX9_tone_X9_in
set_option maxRecDepth 20000 in
theorem ggX9_tone_X9_findTone : GoodIn wsX9_tone wsX9_findTone := goodIn_sub (am_cons (List.mem_cons_of_mem _ (List.mem_append_left _ (List.mem_append_right _ (List.mem_append_left _ (List.mem_of_getElem? (i := 4) rfl))))) (am_app (am_app (am_cons (List.mem_cons_of_mem _ (List.mem_append_left _ (List.mem_append_right _ (List.mem_append_left _ (List.mem_of_getElem? (i := 5) rfl))))) (am_cons (List.mem_cons_of_mem _ (List.mem_append_left _ (List.mem_append_right _ (List.mem_append_left _ (List.mem_of_getElem? (i := 6) rfl))))) (am_cons (List.mem_cons_of_mem _ (List.mem_append_left _ (List.mem_append_right _ (List.mem_append_left _ (List.mem_of_getElem? (i := 7) rfl))))) (am_cons (List.mem_cons_of_mem _ (List.mem_append_left _ (List.mem_append_right _ (List.mem_append_left _ (List.mem_of_getElem? (i := 8) rfl))))) (am_cons (List.mem_cons_of_mem _ (List.mem_append_left _ (List.mem_append_right _ (List.mem_append_left _ (List.mem_of_getElem? (i := 9) rfl))))) (am_cons (List.mem_cons_of_mem _ (List.mem_append_left _ (List.mem_append_right _ (List.mem_append_left _ (List.mem_of_getElem? (i := 10) rfl))))) (am_cons (List.mem_cons_of_mem _ (List.mem_append_left _ (List.mem_append_right _ (List.mem_append_left _ (List.mem_of_getElem? (i := 11) rfl))))) (am_cons (List.mem_cons_of_mem _ (List.mem_append_left _ (List.mem_append_left _ (List.mem_of_getElem? (i := 21) rfl)))) (am_cons (List.mem_cons_of_mem _ (List.mem_append_left _ (List.mem_append_left _ (List.mem_of_getElem? (i := 22) rfl)))) (am_cons (List.mem_cons_of_mem _ (List.mem_append_left _ (List.mem_append_left _ (List.mem_of_getElem? (i := 23) rfl)))) (am_cons (List.mem_cons_of_mem _ (List.mem_append_left _ (List.mem_append_left _ (List.mem_of_getElem? (i := 6) rfl)))) (am_cons (List.mem_cons_of_mem _ (List.mem_append_left _ (List.mem_append_right _ (List.mem_append_left _ (List.mem_of_getElem? (i := 0) rfl))))) (am_cons (List.mem_cons_of_mem _ (List.mem_append_left _ (List.mem_append_left _ (List.mem_of_getElem? (i := 12) rfl)))) (am_cons (List.mem_cons_of_mem _ (List.mem_append_left _ (List.mem_append_right _ (List.mem_append_left _ (List.mem_of_getElem? (i := 12) rfl))))) (am_cons (List.mem_cons_of_mem _ (List.mem_append_left _ (List.mem_append_right _ (List.mem_append_left _ (List.mem_of_getElem? (i := 13) rfl))))) (am_cons (List.mem_cons_of_mem _ (List.mem_append_left _ (List.mem_append_right _ (List.mem_append_left _ (List.mem_of_getElem? (i := 14) rfl))))) (am_cons (List.mem_cons_of_mem _ (List.mem_append_left _ (List.mem_append_right _ (List.mem_append_left _ (List.mem_of_getElem? (i := 15) rfl))))) (am_cons (List.mem_cons_of_mem _ (List.mem_append_left _ (List.mem_append_right _ (List.mem_append_left _ (List.mem_of_getElem? (i := 16) rfl))))) (am_cons (List.mem_cons_of_mem _ (List.mem_append_left _ (List.mem_append_right _ (List.mem_append_left _ (List.mem_of_getElem? (i := 17) rfl))))) (am_cons (List.mem_cons_of_mem _ (List.mem_append_left _ (List.mem_append_right _ (List.mem_append_left _ (List.mem_of_getElem? (i := 18) rfl))))) (am_cons (List.mem_cons_of_mem _ (List.mem_append_left _ (List.mem_append_right _ (List.mem_append_left _ (List.mem_of_getElem? (i := 19) rfl))))) (am_cons (List.mem_cons_of_mem _ (List.mem_append_left _ (List.mem_append_right _ (List.mem_append_left _ (List.mem_of_getElem? (i := 20) rfl))))) (am_cons (List.mem_cons_of_mem _ (List.mem_append_left _ (List.mem_append_right _ (List.mem_append_left _ (List.mem_of_getElem? (i := 21) rfl))))) (am_cons (List.mem_cons_of_mem _ (List.mem_append_left _ (List.mem_append_right _ (List.mem_append_left _ (List.mem_of_getElem? (i := 22) rfl))))) am_nil)))))))))))))))))))))))) (am_cons (List.mem_cons_of_mem _ (List.mem_append_left _ (List.mem_append_right _ (List.mem_append_left _ (List.mem_of_getElem? (i := 23) rfl))))) (am_cons (List.mem_cons_of_mem _ (List.mem_append_left _ (List.mem_append_right _ (List.mem_append_right _ (List.mem_of_getElem? (i := 0) rfl))))) (am_cons (List.mem_cons_of_mem _ (List.mem_append_left _ (List.mem_append_left _ (List.mem_of_getElem? (i := 1) rfl)))) (am_cons (List.mem_cons_of_mem _ (List.mem_append_left _ (List.mem_append_left _ (List.mem_of_getElem? (i := 2) rfl)))) am_nil))))) (fun _ h => List.mem_cons_of_mem _ (List.mem_append_right _ (h))))) (by decide +kernel)
set_option maxRecDepth 20000 in
theorem gX9_tone_X9_findTone : GoodIn wsX9_tone (wsV RX9 142 RX9 yX9_findTone wsX9_findTone) := goodIn_app (goodIn_sub (am_cons (List.mem_cons_of_mem _ (List.mem_append_left _ (List.mem_append_right _ (List.mem_append_left _ (List.mem_of_getElem? (i := 1) rfl))))) (am_cons (List.mem_cons_of_mem _ (List.mem_append_left _ (List.mem_append_right _ (List.mem_append_left _ (List.mem_of_getElem? (i := 2) rfl))))) (am_cons (List.mem_cons_of_mem _ (List.mem_append_left _ (List.mem_append_right _ (List.mem_append_left _ (List.mem_of_getElem? (i := 3) rfl))))) (am_cons (List.mem_cons_of_mem _ (List.mem_append_left _ (List.mem_append_left _ (List.mem_of_getElem? (i := 6) rfl)))) am_nil)))) (by decide +kernel)) ggX9_tone_X9_findTone
theorem dX9_tone_0 : decode cX9_tone 0 = .ok (.aload_n 0, 1) := by decide +kernel
theorem dX9_tone_1 : decode cX9_tone 1 = .ok (.iload_n 1, 1) := by decide +kernel
theorem dX9_tone_2 : decode cX9_tone 2 = .ok (.invokevirtual 130, 3) := by decide +kernel
theorem dX9_tone_5 : decode cX9_tone 5 = .ok (.ifCond .eq 30, 3) := by decide +kernel
theorem dX9_tone_8 : decode cX9_tone 8 = .ok (.iload_n 2, 1) := by decide +kernel
theorem dX9_tone_9 : decode cX9_tone 9 = .ok (.i2l, 1) := by decide +kernel
theorem dX9_tone_10 : decode cX9_tone 10 = .ok (.lconst 0, 1) := by decide +kernel
theorem dX9_tone_11 : decode cX9_tone 11 = .ok (.aload_n 0, 1) := by decide +kernel
theorem dX9_tone_12 : decode cX9_tone 12 = .ok (.iload_n 1, 1) := by decide +kernel
theorem dX9_tone_13 : decode cX9_tone 13 = .ok (.invokevirtual 137, 3) := by decide +kernel
theorem dX9_tone_16 : decode cX9_tone 16 = .ok (.iconst 1, 1) := by decide +kernel
theorem dX9_tone_17 : decode cX9_tone 17 = .ok (.isub, 1) := by decide +kernel
theorem dX9_tone_18 : decode cX9_tone 18 = .ok (.i2l, 1) := by decide +kernel
theorem dX9_tone_19 : decode cX9_tone 19 = .ok (.invokestatic 96, 3) := by decide +kernel
theorem dX9_tone_22 : decode cX9_tone 22 = .ok (.ifCond .eq 13, 3) := by decide +kernel
theorem dX9_tone_25 : decode cX9_tone 25 = .ok (.iload_n 3, 1) := by decide +kernel
theorem dX9_tone_26 : decode cX9_tone 26 = .ok (.i2l, 1) := by decide +kernel
theorem dX9_tone_27 : decode cX9_tone 27 = .ok (.lconst 0, 1) := by decide +kernel
theorem dX9_tone_28 : decode cX9_tone 28 = .ok (.lconst 1, 1) := by decide +kernel
theorem dX9_tone_29 : decode cX9_tone 29 = .ok (.invokestatic 96, 3) := by decide +kernel
theorem dX9_tone_32 : decode cX9_tone 32 = .ok (.ifCond .ne 7, 3) := by decide +kernel
theorem dX9_tone_35 : decode cX9_tone 35 = .ok (.ldc2_w 117, 3) := by decide +kernel
theorem dX9_tone_38 : decode cX9_tone 38 = .ok (.lreturn, 1) := by decide +kernel
theorem dX9_tone_39 : decode cX9_tone 39 = .ok (.aload_n 0, 1) := by decide +kernel
theorem dX9_tone_40 : decode cX9_tone 40 = .ok (.iload_n 1, 1) := by decide +kernel
theorem dX9_tone_41 : decode cX9_tone 41 = .ok (.iload_n 2, 1) := by decide +kernel
theorem dX9_tone_42 : decode cX9_tone 42 = .ok (.invokevirtual 142, 3) := by decide +kernel
theorem dX9_tone_45 : decode cX9_tone 45 = .ok (.iload_n 3, 1) := by decide +kernel
theorem dX9_tone_46 : decode cX9_tone 46 = .ok (.ifCond .ne 10, 3) := by decide +kernel
theorem dX9_tone_49 : decode cX9_tone 49 = .ok (.aload_n 0, 1) := by decide +kernel
theorem dX9_tone_50 : decode cX9_tone 50 = .ok (.getfield 89, 3) := by decide +kernel
theorem dX9_tone_53 : decode cX9_tone 53 = .ok (.goto 7, 3) := by decide +kernel
theorem dX9_tone_56 : decode cX9_tone 56 = .ok (.aload_n 0, 1) := by decide +kernel
theorem dX9_tone_57 : decode cX9_tone 57 = .ok (.getfield 93, 3) := by decide +kernel
theorem dX9_tone_60 : decode cX9_tone 60 = .ok (.lreturn, 1) := by decide +kernel
set_option maxRecDepth 20000 in
theorem ggX9_mark_X9_in : GoodIn wsX9_mark wsX9_in := goodIn_sub (am_cons (List.mem_cons_of_mem _ (List.mem_append_left _ (List.mem_of_getElem? (i := 6) rfl))) (am_nil)) (by decide +kernel)
set_option maxRecDepth 20000 in
theorem gX9_mark_X9_in : GoodIn wsX9_mark (va_wsS RX9 96 yX9_in wsX9_in) := goodIn_app (goodIn_sub (am_cons (List.mem_cons_of_mem _ (List.mem_append_left _ (List.mem_of_getElem? (i := 3) rfl))) (am_cons (List.mem_cons_of_mem _ (List.mem_append_left _ (List.mem_of_getElem? (i := 4) rfl))) (am_cons (List.mem_cons_of_mem _ (List.mem_append_left _ (List.mem_of_getElem? (i := 5) rfl))) am_nil))) (by decide +kernel)) ggX9_mark_X9_in
theorem dX9_mark_0 : decode cX9_mark 0 = .ok (.iload_n 1, 1) := by decide +kernel
theorem dX9_mark_1 : decode cX9_mark 1 = .ok (.i2l, 1) := by decide +kernel
theorem dX9_mark_2 : decode cX9_mark 2 = .ok (.lconst 0, 1) := by decide +kernel
theorem dX9_mark_3 : decode cX9_mark 3 = .ok (.ldc2_w 146, 3) := by decide +kernel
theorem dX9_mark_6 : decode cX9_mark 6 = .ok (.invokestatic 96, 3) := by decide +kernel
theorem dX9_mark_9 : decode cX9_mark 9 = .ok (.ifCond .eq 25, 3) := by decide +kernel
theorem dX9_mark_12 : decode cX9_mark 12 = .ok (.aload_n 0, 1) := by decide +kernel
theorem dX9_mark_13 : decode cX9_mark 13 = .ok (.getfield 148, 3) := by decide +kernel
theorem dX9_mark_16 : decode cX9_mark 16 = .ok (.ifCond .le 20, 3) := by decide +kernel
theorem dX9_mark_19 : decode cX9_mark 19 = .ok (.iload_n 1, 1) := by decide +kernel
theorem dX9_mark_20 : decode cX9_mark 20 = .ok (.aload_n 0, 1) := by decide +kernel
theorem dX9_mark_21 : decode cX9_mark 21 = .ok (.getfield 36, 3) := by decide +kernel
theorem dX9_mark_24 : decode cX9_mark 24 = .ok (.aload_n 0, 1) := by decide +kernel
theorem dX9_mark_25 : decode cX9_mark 25 = .ok (.getfield 148, 3) := by decide +kernel
theorem dX9_mark_28 : decode cX9_mark 28 = .ok (.iconst 1, 1) := by decide +kernel
theorem dX9_mark_29 : decode cX9_mark 29 = .ok (.isub, 1) := by decide +kernel
theorem dX9_mark_30 : decode cX9_mark 30 = .ok (.iaload, 1) := by decide +kernel
theorem dX9_mark_31 : decode cX9_mark 31 = .ok (.if_icmp .gt 5, 3) := by decide +kernel
theorem dX9_mark_34 : decode cX9_mark 34 = .ok (.iconst (-1), 1) := by decide +kernel
theorem dX9_mark_35 : decode cX9_mark 35 = .ok (.ireturn, 1) := by decide +kernel
theorem dX9_mark_36 : decode cX9_mark 36 = .ok (.aload_n 0, 1) := by decide +kernel
theorem dX9_mark_37 : decode cX9_mark 37 = .ok (.getfield 148, 3) := by decide +kernel
theorem dX9_mark_40 : decode cX9_mark 40 = .ok (.bipush 60, 2) := by decide +kernel
theorem dX9_mark_42 : decode cX9_mark 42 = .ok (.if_icmp .ne 6, 3) := by decide +kernel
theorem dX9_mark_45 : decode cX9_mark 45 = .ok (.bipush (-3), 2) := by decide +kernel
theorem dX9_mark_47 : decode cX9_mark 47 = .ok (.ireturn, 1) := by decide +kernel
theorem dX9_mark_48 : decode cX9_mark 48 = .ok (.aload_n 0, 1) := by decide +kernel
theorem dX9_mark_49 : decode cX9_mark 49 = .ok (.getfield 36, 3) := by decide +kernel
theorem dX9_mark_52 : decode cX9_mark 52 = .ok (.aload_n 0, 1) := by decide +kernel
theorem dX9_mark_53 : decode cX9_mark 53 = .ok (.getfield 148, 3) := by decide +kernel
theorem dX9_mark_56 : decode cX9_mark 56 = .ok (.iload_n 1, 1) := by decide +kernel
theorem dX9_mark_57 : decode cX9_mark 57 = .ok (.iastore, 1) := by decide +kernel
theorem dX9_mark_58 : decode cX9_mark 58 = .ok (.aload_n 0, 1) := by decide +kernel
theorem dX9_mark_59 : decode cX9_mark 59 = .ok (.dup, 1) := by decide +kernel
theorem dX9_mark_60 : decode cX9_mark 60 = .ok (.getfield 148, 3) := by decide +kernel
theorem dX9_mark_63 : decode cX9_mark 63 = .ok (.iconst 1, 1) := by decide +kernel
theorem dX9_mark_64 : decode cX9_mark 64 = .ok (.iadd, 1) := by decide +kernel
theorem dX9_mark_65 : decode cX9_mark 65 = .ok (.putfield 148, 3) := by decide +kernel
theorem dX9_mark_68 : decode cX9_mark 68 = .ok (.aload_n 0, 1) := by decide +kernel
theorem dX9_mark_69 : decode cX9_mark 69 = .ok (.getfield 148, 3) := by decide +kernel
theorem dX9_mark_72 : decode cX9_mark 72 = .ok (.ireturn, 1) := by decide +kernel
theorem dX9_unmark_0 : decode cX9_unmark 0 = .ok (.aload_n 0, 1) := by decide +kernel
theorem dX9_unmark_1 : decode cX9_unmark 1 = .ok (.getfield 148, 3) := by decide +kernel
theorem dX9_unmark_4 : decode cX9_unmark 4 = .ok (.istore_n 1, 1) := by decide +kernel
theorem dX9_unmark_5 : decode cX9_unmark 5 = .ok (.aload_n 0, 1) := by decide +kernel
theorem dX9_unmark_6 : decode cX9_unmark 6 = .ok (.iconst 0, 1) := by decide +kernel
theorem dX9_unmark_7 : decode cX9_unmark 7 = .ok (.putfield 148, 3) := by decide +kernel
theorem dX9_unmark_10 : decode cX9_unmark 10 = .ok (.iload_n 1, 1) := by decide +kernel
theorem dX9_unmark_11 : decode cX9_unmark 11 = .ok (.ireturn, 1) := by decide +kernel
theorem dX9_addTurn_0 : decode cX9_addTurn 0 = .ok (.aload_n 0, 1) := by decide +kernel
theorem dX9_addTurn_1 : decode cX9_addTurn 1 = .ok (.getfield 151, 3) := by decide +kernel
theorem dX9_addTurn_4 : decode cX9_addTurn 4 = .ok (.bipush 120, 2) := by decide +kernel
theorem dX9_addTurn_6 : decode cX9_addTurn 6 = .ok (.if_icmp .ge 23, 3) := by decide +kernel
theorem dX9_addTurn_9 : decode cX9_addTurn 9 = .ok (.aload_n 0, 1) := by decide +kernel
theorem dX9_addTurn_10 : decode cX9_addTurn 10 = .ok (.getfield 39, 3) := by decide +kernel
theorem dX9_addTurn_13 : decode cX9_addTurn 13 = .ok (.aload_n 0, 1) := by decide +kernel
theorem dX9_addTurn_14 : decode cX9_addTurn 14 = .ok (.getfield 151, 3) := by decide +kernel
theorem dX9_addTurn_17 : decode cX9_addTurn 17 = .ok (.iload_n 1, 1) := by decide +kernel
theorem dX9_addTurn_18 : decode cX9_addTurn 18 = .ok (.iastore, 1) := by decide +kernel
theorem dX9_addTurn_19 : decode cX9_addTurn 19 = .ok (.aload_n 0, 1) := by decide +kernel
theorem dX9_addTurn_20 : decode cX9_addTurn 20 = .ok (.dup, 1) := by decide +kernel
theorem dX9_addTurn_21 : decode cX9_addTurn 21 = .ok (.getfield 151, 3) := by decide +kernel
theorem dX9_addTurn_24 : decode cX9_addTurn 24 = .ok (.iconst 1, 1) := by decide +kernel
theorem dX9_addTurn_25 : decode cX9_addTurn 25 = .ok (.iadd, 1) := by decide +kernel
theorem dX9_addTurn_26 : decode cX9_addTurn 26 = .ok (.putfield 151, 3) := by decide +kernel
theorem dX9_addTurn_29 : decode cX9_addTurn 29 = .ok (.return_, 1) := by decide +kernel
set_option maxRecDepth 20000 in
theorem ggX9_mend_X9_addTurn : GoodIn wsX9_mend wsX9_addTurn := goodIn_sub (am_cons (List.mem_cons_of_mem _ (List.mem_append_left _ (List.mem_of_getElem? (i := 10) rfl))) (am_app (am_cons (List.mem_cons_of_mem _ (List.mem_append_left _ (List.mem_of_getElem? (i := 0) rfl))) (am_cons (List.mem_cons_of_mem _ (List.mem_append_left _ (List.mem_of_getElem? (i := 2) rfl))) am_nil)) (fun _ h => List.mem_cons_of_mem _ (List.mem_append_right _ (h))))) (by decide +kernel)
set_option maxRecDepth 20000 in
theorem gX9_mend_X9_addTurn : GoodIn wsX9_mend (wsV RX9 154 RX9 yX9_addTurn wsX9_addTurn) := goodIn_app (goodIn_sub (am_cons (List.mem_cons_of_mem _ (List.mem_append_left _ (List.mem_of_getElem? (i := 6) rfl))) (am_cons (List.mem_cons_of_mem _ (List.mem_append_left _ (List.mem_of_getElem? (i := 7) rfl))) (am_cons (List.mem_cons_of_mem _ (List.mem_append_left _ (List.mem_of_getElem? (i := 8) rfl))) (am_cons (List.mem_cons_of_mem _ (List.mem_append_left _ (List.mem_of_getElem? (i := 9) rfl))) am_nil)))) (by decide +kernel)) ggX9_mend_X9_addTurn
theorem dX9_mend_0 : decode cX9_mend 0 = .ok (.aload_n 0, 1) := by decide +kernel
theorem dX9_mend_1 : decode cX9_mend 1 = .ok (.iconst 0, 1) := by decide +kernel
theorem dX9_mend_2 : decode cX9_mend 2 = .ok (.putfield 151, 3) := by decide +kernel
theorem dX9_mend_5 : decode cX9_mend 5 = .ok (.iconst 0, 1) := by decide +kernel
theorem dX9_mend_6 : decode cX9_mend 6 = .ok (.istore_n 1, 1) := by decide +kernel
theorem dX9_mend_7 : decode cX9_mend 7 = .ok (.iload_n 1, 1) := by decide +kernel
theorem dX9_mend_8 : decode cX9_mend 8 = .ok (.aload_n 0, 1) := by decide +kernel
theorem dX9_mend_9 : decode cX9_mend 9 = .ok (.getfield 148, 3) := by decide +kernel
theorem dX9_mend_12 : decode cX9_mend 12 = .ok (.if_icmp .ge 165, 3) := by decide +kernel
theorem dX9_mend_15 : decode cX9_mend 15 = .ok (.aload_n 0, 1) := by decide +kernel
theorem dX9_mend_16 : decode cX9_mend 16 = .ok (.getfield 151, 3) := by decide +kernel
theorem dX9_mend_19 : decode cX9_mend 19 = .ok (.bipush 120, 2) := by decide +kernel
theorem dX9_mend_21 : decode cX9_mend 21 = .ok (.if_icmp .ge 156, 3) := by decide +kernel
theorem dX9_mend_24 : decode cX9_mend 24 = .ok (.iload_n 1, 1) := by decide +kernel
theorem dX9_mend_25 : decode cX9_mend 25 = .ok (.iconst 1, 1) := by decide +kernel
theorem dX9_mend_26 : decode cX9_mend 26 = .ok (.if_icmp .le 135, 3) := by decide +kernel
theorem dX9_mend_29 : decode cX9_mend 29 = .ok (.aload_n 0, 1) := by decide +kernel
theorem dX9_mend_30 : decode cX9_mend 30 = .ok (.getfield 39, 3) := by decide +kernel
theorem dX9_mend_33 : decode cX9_mend 33 = .ok (.aload_n 0, 1) := by decide +kernel
theorem dX9_mend_34 : decode cX9_mend 34 = .ok (.getfield 151, 3) := by decide +kernel
theorem dX9_mend_37 : decode cX9_mend 37 = .ok (.iconst 1, 1) := by decide +kernel
theorem dX9_mend_38 : decode cX9_mend 38 = .ok (.isub, 1) := by decide +kernel
theorem dX9_mend_39 : decode cX9_mend 39 = .ok (.iaload, 1) := by decide +kernel
theorem dX9_mend_40 : decode cX9_mend 40 = .ok (.istore_n 2, 1) := by decide +kernel
theorem dX9_mend_41 : decode cX9_mend 41 = .ok (.iload_n 2, 1) := by decide +kernel
theorem dX9_mend_42 : decode cX9_mend 42 = .ok (.aload_n 0, 1) := by decide +kernel
theorem dX9_mend_43 : decode cX9_mend 43 = .ok (.getfield 39, 3) := by decide +kernel
theorem dX9_mend_46 : decode cX9_mend 46 = .ok (.aload_n 0, 1) := by decide +kernel
theorem dX9_mend_47 : decode cX9_mend 47 = .ok (.getfield 151, 3) := by decide +kernel
theorem dX9_mend_50 : decode cX9_mend 50 = .ok (.iconst 2, 1) := by decide +kernel
theorem dX9_mend_51 : decode cX9_mend 51 = .ok (.isub, 1) := by decide +kernel
theorem dX9_mend_52 : decode cX9_mend 52 = .ok (.iaload, 1) := by decide +kernel
theorem dX9_mend_53 : decode cX9_mend 53 = .ok (.isub, 1) := by decide +kernel
theorem dX9_mend_54 : decode cX9_mend 54 = .ok (.i2l, 1) := by decide +kernel
theorem dX9_mend_55 : decode cX9_mend 55 = .ok (.lstore_n 3, 1) := by decide +kernel
theorem dX9_mend_56 : decode cX9_mend 56 = .ok (.aload_n 0, 1) := by decide +kernel
theorem dX9_mend_57 : decode cX9_mend 57 = .ok (.getfield 36, 3) := by decide +kernel
theorem dX9_mend_60 : decode cX9_mend 60 = .ok (.iload_n 1, 1) := by decide +kernel
theorem dX9_mend_61 : decode cX9_mend 61 = .ok (.iaload, 1) := by decide +kernel
theorem dX9_mend_62 : decode cX9_mend 62 = .ok (.iload_n 2, 1) := by decide +kernel
theorem dX9_mend_63 : decode cX9_mend 63 = .ok (.isub, 1) := by decide +kernel
theorem dX9_mend_64 : decode cX9_mend 64 = .ok (.i2l, 1) := by decide +kernel
theorem dX9_mend_65 : decode cX9_mend 65 = .ok (.lstore 5, 2) := by decide +kernel
theorem dX9_mend_67 : decode cX9_mend 67 = .ok (.ldc2_w 140, 3) := by decide +kernel
theorem dX9_mend_70 : decode cX9_mend 70 = .ok (.lload 5, 2) := by decide +kernel
theorem dX9_mend_72 : decode cX9_mend 72 = .ok (.lmul, 1) := by decide +kernel
theorem dX9_mend_73 : decode cX9_mend 73 = .ok (.ldc2_w 108, 3) := by decide +kernel
theorem dX9_mend_76 : decode cX9_mend 76 = .ok (.lload_n 3, 1) := by decide +kernel
theorem dX9_mend_77 : decode cX9_mend 77 = .ok (.lmul, 1) := by decide +kernel
theorem dX9_mend_78 : decode cX9_mend 78 = .ok (.lcmp, 1) := by decide +kernel
theorem dX9_mend_79 : decode cX9_mend 79 = .ok (.ifCond .le 82, 3) := by decide +kernel
theorem dX9_mend_82 : decode cX9_mend 82 = .ok (.ldc2_w 140, 3) := by decide +kernel
theorem dX9_mend_85 : decode cX9_mend 85 = .ok (.lload 5, 2) := by decide +kernel
theorem dX9_mend_87 : decode cX9_mend 87 = .ok (.lmul, 1) := by decide +kernel
theorem dX9_mend_88 : decode cX9_mend 88 = .ok (.lload_n 3, 1) := by decide +kernel
theorem dX9_mend_89 : decode cX9_mend 89 = .ok (.ladd, 1) := by decide +kernel
theorem dX9_mend_90 : decode cX9_mend 90 = .ok (.ldc2_w 140, 3) := by decide +kernel
theorem dX9_mend_93 : decode cX9_mend 93 = .ok (.lload_n 3, 1) := by decide +kernel
theorem dX9_mend_94 : decode cX9_mend 94 = .ok (.lmul, 1) := by decide +kernel
theorem dX9_mend_95 : decode cX9_mend 95 = .ok (.ldiv, 1) := by decide +kernel
theorem dX9_mend_96 : decode cX9_mend 96 = .ok (.lstore 7, 2) := by decide +kernel
theorem dX9_mend_98 : decode cX9_mend 98 = .ok (.lload 7, 2) := by decide +kernel
theorem dX9_mend_100 : decode cX9_mend 100 = .ok (.ldc2_w 140, 3) := by decide +kernel
theorem dX9_mend_103 : decode cX9_mend 103 = .ok (.lcmp, 1) := by decide +kernel
theorem dX9_mend_104 : decode cX9_mend 104 = .ok (.ifCond .ge 9, 3) := by decide +kernel
theorem dX9_mend_107 : decode cX9_mend 107 = .ok (.ldc2_w 140, 3) := by decide +kernel
theorem dX9_mend_110 : decode cX9_mend 110 = .ok (.goto 5, 3) := by decide +kernel
theorem dX9_mend_113 : decode cX9_mend 113 = .ok (.lload 7, 2) := by decide +kernel
theorem dX9_mend_115 : decode cX9_mend 115 = .ok (.lstore 7, 2) := by decide +kernel
theorem dX9_mend_117 : decode cX9_mend 117 = .ok (.lconst 1, 1) := by decide +kernel
theorem dX9_mend_118 : decode cX9_mend 118 = .ok (.lstore 9, 2) := by decide +kernel
theorem dX9_mend_120 : decode cX9_mend 120 = .ok (.lload 9, 2) := by decide +kernel
theorem dX9_mend_122 : decode cX9_mend 122 = .ok (.lload 7, 2) := by decide +kernel
theorem dX9_mend_124 : decode cX9_mend 124 = .ok (.lcmp, 1) := by decide +kernel
theorem dX9_mend_125 : decode cX9_mend 125 = .ok (.ifCond .ge 36, 3) := by decide +kernel
theorem dX9_mend_128 : decode cX9_mend 128 = .ok (.aload_n 0, 1) := by decide +kernel
theorem dX9_mend_129 : decode cX9_mend 129 = .ok (.getfield 151, 3) := by decide +kernel
theorem dX9_mend_132 : decode cX9_mend 132 = .ok (.bipush 120, 2) := by decide +kernel
theorem dX9_mend_134 : decode cX9_mend 134 = .ok (.if_icmp .ge 27, 3) := by decide +kernel
theorem dX9_mend_137 : decode cX9_mend 137 = .ok (.aload_n 0, 1) := by decide +kernel
theorem dX9_mend_138 : decode cX9_mend 138 = .ok (.iload_n 2, 1) := by decide +kernel
theorem dX9_mend_139 : decode cX9_mend 139 = .ok (.lload 5, 2) := by decide +kernel
theorem dX9_mend_141 : decode cX9_mend 141 = .ok (.lload 9, 2) := by decide +kernel
theorem dX9_mend_143 : decode cX9_mend 143 = .ok (.lmul, 1) := by decide +kernel
theorem dX9_mend_144 : decode cX9_mend 144 = .ok (.lload 7, 2) := by decide +kernel
theorem dX9_mend_146 : decode cX9_mend 146 = .ok (.ldiv, 1) := by decide +kernel
theorem dX9_mend_147 : decode cX9_mend 147 = .ok (.l2i, 1) := by decide +kernel
theorem dX9_mend_148 : decode cX9_mend 148 = .ok (.iadd, 1) := by decide +kernel
theorem dX9_mend_149 : decode cX9_mend 149 = .ok (.invokevirtual 154, 3) := by decide +kernel
theorem dX9_mend_152 : decode cX9_mend 152 = .ok (.lload 9, 2) := by decide +kernel
theorem dX9_mend_154 : decode cX9_mend 154 = .ok (.lconst 1, 1) := by decide +kernel
theorem dX9_mend_155 : decode cX9_mend 155 = .ok (.ladd, 1) := by decide +kernel
theorem dX9_mend_156 : decode cX9_mend 156 = .ok (.lstore 9, 2) := by decide +kernel
theorem dX9_mend_158 : decode cX9_mend 158 = .ok (.goto (-38), 3) := by decide +kernel
theorem dX9_mend_161 : decode cX9_mend 161 = .ok (.aload_n 0, 1) := by decide +kernel
theorem dX9_mend_162 : decode cX9_mend 162 = .ok (.aload_n 0, 1) := by decide +kernel
theorem dX9_mend_163 : decode cX9_mend 163 = .ok (.getfield 36, 3) := by decide +kernel
theorem dX9_mend_166 : decode cX9_mend 166 = .ok (.iload_n 1, 1) := by decide +kernel
theorem dX9_mend_167 : decode cX9_mend 167 = .ok (.iaload, 1) := by decide +kernel
theorem dX9_mend_168 : decode cX9_mend 168 = .ok (.invokevirtual 154, 3) := by decide +kernel
theorem dX9_mend_171 : decode cX9_mend 171 = .ok (.iinc 1 1, 3) := by decide +kernel
theorem dX9_mend_174 : decode cX9_mend 174 = .ok (.goto (-167), 3) := by decide +kernel
theorem dX9_mend_177 : decode cX9_mend 177 = .ok (.return_, 1) := by decide +kernel
set_option maxRecDepth 20000 in
theorem ggX9_turns_X9_mend : GoodIn wsX9_turns wsX9_mend := goodIn_sub (am_cons (List.mem_cons_of_mem _ (List.mem_append_left _ (List.mem_of_getElem? (i := 5) rfl))) (am_app (am_cons (List.mem_cons_of_mem _ (List.mem_append_left _ (List.mem_of_getElem? (i := 0) rfl))) (am_cons (List.mem_cons_of_mem _ (List.mem_append_left _ (List.mem_of_getElem? (i := 6) rfl))) (am_cons (List.mem_cons_of_mem _ (List.mem_append_left _ (List.mem_of_getElem? (i := 7) rfl))) (am_cons (List.mem_cons_of_mem _ (List.mem_append_left _ (List.mem_of_getElem? (i := 8) rfl))) (am_cons (List.mem_cons_of_mem _ (List.mem_append_left _ (List.mem_of_getElem? (i := 9) rfl))) (am_cons (List.mem_cons_of_mem _ (List.mem_append_left _ (List.mem_of_getElem? (i := 10) rfl))) (am_cons (List.mem_cons_of_mem _ (List.mem_append_left _ (List.mem_of_getElem? (i := 11) rfl))) (am_cons (List.mem_cons_of_mem _ (List.mem_append_left _ (List.mem_of_getElem? (i := 12) rfl))) (am_cons (List.mem_cons_of_mem _ (List.mem_append_left _ (List.mem_of_getElem? (i := 13) rfl))) (am_cons (List.mem_cons_of_mem _ (List.mem_append_left _ (List.mem_of_getElem? (i := 4) rfl))) (am_cons (List.mem_cons_of_mem _ (List.mem_append_left _ (List.mem_of_getElem? (i := 14) rfl))) am_nil))))))))))) (fun _ h => List.mem_cons_of_mem _ (List.mem_append_right _ (h))))) (by decide +kernel)
set_option maxRecDepth 20000 in
theorem gX9_turns_X9_mend : GoodIn wsX9_turns (wsV RX9 158 RX9 yX9_mend wsX9_mend) := goodIn_app (goodIn_sub (am_cons (List.mem_cons_of_mem _ (List.mem_append_left _ (List.mem_of_getElem? (i := 1) rfl))) (am_cons (List.mem_cons_of_mem _ (List.mem_append_left _ (List.mem_of_getElem? (i := 2) rfl))) (am_cons (List.mem_cons_of_mem _ (List.mem_append_left _ (List.mem_of_getElem? (i := 3) rfl))) (am_cons (List.mem_cons_of_mem _ (List.mem_append_left _ (List.mem_of_getElem? (i := 4) rfl))) am_nil)))) (by decide +kernel)) ggX9_turns_X9_mend
theorem dX9_turns_0 : decode cX9_turns 0 = .ok (.aload_n 0, 1) := by decide +kernel
theorem dX9_turns_1 : decode cX9_turns 1 = .ok (.invokevirtual 158, 3) := by decide +kernel
theorem dX9_turns_4 : decode cX9_turns 4 = .ok (.aload_n 0, 1) := by decide +kernel
theorem dX9_turns_5 : decode cX9_turns 5 = .ok (.getfield 151, 3) := by decide +kernel
theorem dX9_turns_8 : decode cX9_turns 8 = .ok (.ireturn, 1) := by decide +kernel
set_option maxRecDepth 20000 in
theorem ggX9_turn_X9_mend : GoodIn wsX9_turn wsX9_mend := goodIn_sub (am_cons (List.mem_cons_of_mem _ (List.mem_append_left _ (List.mem_of_getElem? (i := 6) rfl))) (am_app (am_cons (List.mem_cons_of_mem _ (List.mem_append_left _ (List.mem_of_getElem? (i := 0) rfl))) (am_cons (List.mem_cons_of_mem _ (List.mem_append_left _ (List.mem_of_getElem? (i := 7) rfl))) (am_cons (List.mem_cons_of_mem _ (List.mem_append_left _ (List.mem_of_getElem? (i := 1) rfl))) (am_cons (List.mem_cons_of_mem _ (List.mem_append_left _ (List.mem_of_getElem? (i := 8) rfl))) (am_cons (List.mem_cons_of_mem _ (List.mem_append_left _ (List.mem_of_getElem? (i := 9) rfl))) (am_cons (List.mem_cons_of_mem _ (List.mem_append_left _ (List.mem_of_getElem? (i := 10) rfl))) (am_cons (List.mem_cons_of_mem _ (List.mem_append_left _ (List.mem_of_getElem? (i := 11) rfl))) (am_cons (List.mem_cons_of_mem _ (List.mem_append_left _ (List.mem_of_getElem? (i := 12) rfl))) (am_cons (List.mem_cons_of_mem _ (List.mem_append_left _ (List.mem_of_getElem? (i := 13) rfl))) (am_cons (List.mem_cons_of_mem _ (List.mem_append_left _ (List.mem_of_getElem? (i := 5) rfl))) (am_cons (List.mem_cons_of_mem _ (List.mem_append_left _ (List.mem_of_getElem? (i := 14) rfl))) am_nil))))))))))) (fun _ h => List.mem_cons_of_mem _ (List.mem_append_right _ (h))))) (by decide +kernel)
set_option maxRecDepth 20000 in
theorem gX9_turn_X9_mend : GoodIn wsX9_turn (wsV RX9 158 RX9 yX9_mend wsX9_mend) := goodIn_app (goodIn_sub (am_cons (List.mem_cons_of_mem _ (List.mem_append_left _ (List.mem_of_getElem? (i := 2) rfl))) (am_cons (List.mem_cons_of_mem _ (List.mem_append_left _ (List.mem_of_getElem? (i := 3) rfl))) (am_cons (List.mem_cons_of_mem _ (List.mem_append_left _ (List.mem_of_getElem? (i := 4) rfl))) (am_cons (List.mem_cons_of_mem _ (List.mem_append_left _ (List.mem_of_getElem? (i := 5) rfl))) am_nil)))) (by decide +kernel)) ggX9_turn_X9_mend
set_option maxRecDepth 20000 in
theorem ggX9_turn_X9_in : GoodIn wsX9_turn wsX9_in := goodIn_sub (am_cons (List.mem_cons_of_mem _ (List.mem_append_left _ (List.mem_of_getElem? (i := 17) rfl))) (am_nil)) (by decide +kernel)
set_option maxRecDepth 20000 in
theorem gX9_turn_X9_in : GoodIn wsX9_turn (va_wsS RX9 96 yX9_in wsX9_in) := goodIn_app (goodIn_sub (am_cons (List.mem_cons_of_mem _ (List.mem_append_left _ (List.mem_of_getElem? (i := 15) rfl))) (am_cons (List.mem_cons_of_mem _ (List.mem_append_left _ (List.mem_of_getElem? (i := 16) rfl))) (am_cons (List.mem_cons_of_mem _ (List.mem_append_left _ (List.mem_of_getElem? (i := 5) rfl))) am_nil))) (by decide +kernel)) ggX9_turn_X9_in
theorem dX9_turn_0 : decode cX9_turn 0 = .ok (.aload_n 0, 1) := by decide +kernel
theorem dX9_turn_1 : decode cX9_turn 1 = .ok (.invokevirtual 158, 3) := by decide +kernel
theorem dX9_turn_4 : decode cX9_turn 4 = .ok (.iload_n 1, 1) := by decide +kernel
theorem dX9_turn_5 : decode cX9_turn 5 = .ok (.i2l, 1) := by decide +kernel
theorem dX9_turn_6 : decode cX9_turn 6 = .ok (.lconst 0, 1) := by decide +kernel
theorem dX9_turn_7 : decode cX9_turn 7 = .ok (.aload_n 0, 1) := by decide +kernel
theorem dX9_turn_8 : decode cX9_turn 8 = .ok (.getfield 151, 3) := by decide +kernel
theorem dX9_turn_11 : decode cX9_turn 11 = .ok (.iconst 1, 1) := by decide +kernel
theorem dX9_turn_12 : decode cX9_turn 12 = .ok (.isub, 1) := by decide +kernel
theorem dX9_turn_13 : decode cX9_turn 13 = .ok (.i2l, 1) := by decide +kernel
theorem dX9_turn_14 : decode cX9_turn 14 = .ok (.invokestatic 96, 3) := by decide +kernel
theorem dX9_turn_17 : decode cX9_turn 17 = .ok (.ifCond .eq 12, 3) := by decide +kernel
theorem dX9_turn_20 : decode cX9_turn 20 = .ok (.aload_n 0, 1) := by decide +kernel
theorem dX9_turn_21 : decode cX9_turn 21 = .ok (.getfield 39, 3) := by decide +kernel
theorem dX9_turn_24 : decode cX9_turn 24 = .ok (.iload_n 1, 1) := by decide +kernel
theorem dX9_turn_25 : decode cX9_turn 25 = .ok (.iaload, 1) := by decide +kernel
theorem dX9_turn_26 : decode cX9_turn 26 = .ok (.goto 4, 3) := by decide +kernel
theorem dX9_turn_29 : decode cX9_turn 29 = .ok (.iconst (-1), 1) := by decide +kernel
theorem dX9_turn_30 : decode cX9_turn 30 = .ok (.ireturn, 1) := by decide +kernel
set_option maxRecDepth 20000 in
theorem ggX9_isSheet_X9_in : GoodIn wsX9_isSheet wsX9_in := goodIn_sub (am_cons (List.mem_cons_of_mem _ (List.mem_of_getElem? (i := 5) rfl)) (am_nil)) (by decide +kernel)
set_option maxRecDepth 20000 in
theorem gX9_isSheet_X9_in : GoodIn wsX9_isSheet (va_wsS RX9 96 yX9_in wsX9_in) := goodIn_app (goodIn_sub (am_cons (List.mem_cons_of_mem _ (List.mem_of_getElem? (i := 2) rfl)) (am_cons (List.mem_cons_of_mem _ (List.mem_of_getElem? (i := 3) rfl)) (am_cons (List.mem_cons_of_mem _ (List.mem_of_getElem? (i := 4) rfl)) am_nil))) (by decide +kernel)) ggX9_isSheet_X9_in
theorem dX9_isSheet_0 : decode cX9_isSheet 0 = .ok (.iload_n 0, 1) := by decide +kernel
theorem dX9_isSheet_1 : decode cX9_isSheet 1 = .ok (.i2l, 1) := by decide +kernel
theorem dX9_isSheet_2 : decode cX9_isSheet 2 = .ok (.lconst 0, 1) := by decide +kernel
theorem dX9_isSheet_3 : decode cX9_isSheet 3 = .ok (.ldc2_w 108, 3) := by decide +kernel
theorem dX9_isSheet_6 : decode cX9_isSheet 6 = .ok (.invokestatic 96, 3) := by decide +kernel
theorem dX9_isSheet_9 : decode cX9_isSheet 9 = .ok (.ifCond .eq 19, 3) := by decide +kernel
theorem dX9_isSheet_12 : decode cX9_isSheet 12 = .ok (.iload_n 1, 1) := by decide +kernel
theorem dX9_isSheet_13 : decode cX9_isSheet 13 = .ok (.i2l, 1) := by decide +kernel
theorem dX9_isSheet_14 : decode cX9_isSheet 14 = .ok (.lconst 0, 1) := by decide +kernel
theorem dX9_isSheet_15 : decode cX9_isSheet 15 = .ok (.ldc2_w 140, 3) := by decide +kernel
theorem dX9_isSheet_18 : decode cX9_isSheet 18 = .ok (.invokestatic 96, 3) := by decide +kernel
theorem dX9_isSheet_21 : decode cX9_isSheet 21 = .ok (.ifCond .eq 7, 3) := by decide +kernel
theorem dX9_isSheet_24 : decode cX9_isSheet 24 = .ok (.iconst 1, 1) := by decide +kernel
theorem dX9_isSheet_25 : decode cX9_isSheet 25 = .ok (.goto 4, 3) := by decide +kernel
theorem dX9_isSheet_28 : decode cX9_isSheet 28 = .ok (.iconst 0, 1) := by decide +kernel
theorem dX9_isSheet_29 : decode cX9_isSheet 29 = .ok (.ireturn, 1) := by decide +kernel
set_option maxRecDepth 20000 in
theorem ggX9_sheet_X9_isSheet : GoodIn wsX9_sheet wsX9_isSheet := goodIn_sub (am_cons (List.mem_cons_of_mem _ (List.mem_append_left _ (List.mem_of_getElem? (i := 8) rfl))) (am_cons (List.mem_cons_of_mem _ (List.mem_append_left _ (List.mem_of_getElem? (i := 9) rfl))) (am_cons (List.mem_cons_of_mem _ (List.mem_append_left _ (List.mem_of_getElem? (i := 10) rfl))) (am_cons (List.mem_cons_of_mem _ (List.mem_append_left _ (List.mem_of_getElem? (i := 11) rfl))) (am_cons (List.mem_cons_of_mem _ (List.mem_append_left _ (List.mem_of_getElem? (i := 12) rfl))) (am_cons (List.mem_cons_of_mem _ (List.mem_append_left _ (List.mem_of_getElem? (i := 7) rfl))) (am_cons (List.mem_cons_of_mem _ (List.mem_append_left _ (List.mem_of_getElem? (i := 13) rfl))) am_nil))))))) (by decide +kernel)
set_option maxRecDepth 20000 in
theorem gX9_sheet_X9_isSheet : GoodIn wsX9_sheet (va_wsS RX9 161 yX9_isSheet wsX9_isSheet) := goodIn_app (goodIn_sub (am_cons (List.mem_cons_of_mem _ (List.mem_append_left _ (List.mem_of_getElem? (i := 5) rfl))) (am_cons (List.mem_cons_of_mem _ (List.mem_append_left _ (List.mem_of_getElem? (i := 6) rfl))) (am_cons (List.mem_cons_of_mem _ (List.mem_append_left _ (List.mem_of_getElem? (i := 7) rfl))) am_nil))) (by decide +kernel)) ggX9_sheet_X9_isSheet
set_option maxRecDepth 20000 in
theorem ggX9_sheet_X9_in : GoodIn wsX9_sheet wsX9_in := goodIn_sub (am_cons (List.mem_cons_of_mem _ (List.mem_append_left _ (List.mem_of_getElem? (i := 13) rfl))) (am_nil)) (by decide +kernel)
set_option maxRecDepth 20000 in
theorem gX9_sheet_X9_in : GoodIn wsX9_sheet (va_wsS RX9 96 yX9_in wsX9_in) := goodIn_app (goodIn_sub (am_cons (List.mem_cons_of_mem _ (List.mem_append_left _ (List.mem_of_getElem? (i := 11) rfl))) (am_cons (List.mem_cons_of_mem _ (List.mem_append_left _ (List.mem_of_getElem? (i := 12) rfl))) (am_cons (List.mem_cons_of_mem _ (List.mem_append_left _ (List.mem_of_getElem? (i := 7) rfl))) am_nil))) (by decide +kernel)) ggX9_sheet_X9_in
theorem dX9_sheet_0 : decode cX9_sheet 0 = .ok (.iload_n 1, 1) := by decide +kernel
theorem dX9_sheet_1 : decode cX9_sheet 1 = .ok (.iload_n 2, 1) := by decide +kernel
theorem dX9_sheet_2 : decode cX9_sheet 2 = .ok (.invokestatic 161, 3) := by decide +kernel
theorem dX9_sheet_5 : decode cX9_sheet 5 = .ok (.ifCond .eq 23, 3) := by decide +kernel
theorem dX9_sheet_8 : decode cX9_sheet 8 = .ok (.iload_n 3, 1) := by decide +kernel
theorem dX9_sheet_9 : decode cX9_sheet 9 = .ok (.sipush 200, 3) := by decide +kernel
theorem dX9_sheet_12 : decode cX9_sheet 12 = .ok (.if_icmp .gt 16, 3) := by decide +kernel
theorem dX9_sheet_15 : decode cX9_sheet 15 = .ok (.iload 4, 2) := by decide +kernel
theorem dX9_sheet_17 : decode cX9_sheet 17 = .ok (.i2l, 1) := by decide +kernel
theorem dX9_sheet_18 : decode cX9_sheet 18 = .ok (.lconst 1, 1) := by decide +kernel
theorem dX9_sheet_19 : decode cX9_sheet 19 = .ok (.ldc2_w 165, 3) := by decide +kernel
theorem dX9_sheet_22 : decode cX9_sheet 22 = .ok (.invokestatic 96, 3) := by decide +kernel
theorem dX9_sheet_25 : decode cX9_sheet 25 = .ok (.ifCond .ne 5, 3) := by decide +kernel
theorem dX9_sheet_28 : decode cX9_sheet 28 = .ok (.iconst (-1), 1) := by decide +kernel
theorem dX9_sheet_29 : decode cX9_sheet 29 = .ok (.ireturn, 1) := by decide +kernel
theorem dX9_sheet_30 : decode cX9_sheet 30 = .ok (.iload_n 3, 1) := by decide +kernel
theorem dX9_sheet_31 : decode cX9_sheet 31 = .ok (.ifCond .ge 6, 3) := by decide +kernel
theorem dX9_sheet_34 : decode cX9_sheet 34 = .ok (.bipush (-14), 2) := by decide +kernel
theorem dX9_sheet_36 : decode cX9_sheet 36 = .ok (.ireturn, 1) := by decide +kernel
theorem dX9_sheet_37 : decode cX9_sheet 37 = .ok (.aload_n 0, 1) := by decide +kernel
theorem dX9_sheet_38 : decode cX9_sheet 38 = .ok (.getfield 42, 3) := by decide +kernel
theorem dX9_sheet_41 : decode cX9_sheet 41 = .ok (.iload_n 1, 1) := by decide +kernel
theorem dX9_sheet_42 : decode cX9_sheet 42 = .ok (.iload_n 2, 1) := by decide +kernel
theorem dX9_sheet_43 : decode cX9_sheet 43 = .ok (.iastore, 1) := by decide +kernel
theorem dX9_sheet_44 : decode cX9_sheet 44 = .ok (.aload_n 0, 1) := by decide +kernel
theorem dX9_sheet_45 : decode cX9_sheet 45 = .ok (.getfield 45, 3) := by decide +kernel
theorem dX9_sheet_48 : decode cX9_sheet 48 = .ok (.iload_n 1, 1) := by decide +kernel
theorem dX9_sheet_49 : decode cX9_sheet 49 = .ok (.iload_n 3, 1) := by decide +kernel
theorem dX9_sheet_50 : decode cX9_sheet 50 = .ok (.iastore, 1) := by decide +kernel
theorem dX9_sheet_51 : decode cX9_sheet 51 = .ok (.aload_n 0, 1) := by decide +kernel
theorem dX9_sheet_52 : decode cX9_sheet 52 = .ok (.getfield 48, 3) := by decide +kernel
theorem dX9_sheet_55 : decode cX9_sheet 55 = .ok (.iload_n 1, 1) := by decide +kernel
theorem dX9_sheet_56 : decode cX9_sheet 56 = .ok (.iload 4, 2) := by decide +kernel
theorem dX9_sheet_58 : decode cX9_sheet 58 = .ok (.iastore, 1) := by decide +kernel
theorem dX9_sheet_59 : decode cX9_sheet 59 = .ok (.iconst 0, 1) := by decide +kernel
theorem dX9_sheet_60 : decode cX9_sheet 60 = .ok (.istore 5, 2) := by decide +kernel
theorem dX9_sheet_62 : decode cX9_sheet 62 = .ok (.iload 5, 2) := by decide +kernel
theorem dX9_sheet_64 : decode cX9_sheet 64 = .ok (.sipush 200, 3) := by decide +kernel
theorem dX9_sheet_67 : decode cX9_sheet 67 = .ok (.if_icmp .ge 23, 3) := by decide +kernel
theorem dX9_sheet_70 : decode cX9_sheet 70 = .ok (.aload_n 0, 1) := by decide +kernel
theorem dX9_sheet_71 : decode cX9_sheet 71 = .ok (.getfield 51, 3) := by decide +kernel
theorem dX9_sheet_74 : decode cX9_sheet 74 = .ok (.sipush 200, 3) := by decide +kernel
theorem dX9_sheet_77 : decode cX9_sheet 77 = .ok (.iload_n 1, 1) := by decide +kernel
theorem dX9_sheet_78 : decode cX9_sheet 78 = .ok (.imul, 1) := by decide +kernel
theorem dX9_sheet_79 : decode cX9_sheet 79 = .ok (.iload 5, 2) := by decide +kernel
theorem dX9_sheet_81 : decode cX9_sheet 81 = .ok (.iadd, 1) := by decide +kernel
theorem dX9_sheet_82 : decode cX9_sheet 82 = .ok (.iconst 0, 1) := by decide +kernel
theorem dX9_sheet_83 : decode cX9_sheet 83 = .ok (.iastore, 1) := by decide +kernel
theorem dX9_sheet_84 : decode cX9_sheet 84 = .ok (.iinc 5 1, 3) := by decide +kernel
theorem dX9_sheet_87 : decode cX9_sheet 87 = .ok (.goto (-25), 3) := by decide +kernel
theorem dX9_sheet_90 : decode cX9_sheet 90 = .ok (.iload_n 3, 1) := by decide +kernel
theorem dX9_sheet_91 : decode cX9_sheet 91 = .ok (.ireturn, 1) := by decide +kernel
set_option maxRecDepth 20000 in
theorem ggX9_drop_X9_in : GoodIn wsX9_drop wsX9_in := goodIn_sub (am_cons (List.mem_cons_of_mem _ (List.mem_append_left _ (List.mem_of_getElem? (i := 6) rfl))) (am_nil)) (by decide +kernel)
set_option maxRecDepth 20000 in
theorem gX9_drop_X9_in : GoodIn wsX9_drop (va_wsS RX9 96 yX9_in wsX9_in) := goodIn_app (goodIn_sub (am_cons (List.mem_cons_of_mem _ (List.mem_append_left _ (List.mem_of_getElem? (i := 3) rfl))) (am_cons (List.mem_cons_of_mem _ (List.mem_append_left _ (List.mem_of_getElem? (i := 4) rfl))) (am_cons (List.mem_cons_of_mem _ (List.mem_append_left _ (List.mem_of_getElem? (i := 5) rfl))) am_nil))) (by decide +kernel)) ggX9_drop_X9_in
theorem dX9_drop_0 : decode cX9_drop 0 = .ok (.iload_n 1, 1) := by decide +kernel
theorem dX9_drop_1 : decode cX9_drop 1 = .ok (.i2l, 1) := by decide +kernel
theorem dX9_drop_2 : decode cX9_drop 2 = .ok (.lconst 0, 1) := by decide +kernel
theorem dX9_drop_3 : decode cX9_drop 3 = .ok (.ldc2_w 108, 3) := by decide +kernel
theorem dX9_drop_6 : decode cX9_drop 6 = .ok (.invokestatic 96, 3) := by decide +kernel
theorem dX9_drop_9 : decode cX9_drop 9 = .ok (.ifCond .ne 5, 3) := by decide +kernel
theorem dX9_drop_12 : decode cX9_drop 12 = .ok (.iconst (-1), 1) := by decide +kernel
theorem dX9_drop_13 : decode cX9_drop 13 = .ok (.ireturn, 1) := by decide +kernel
theorem dX9_drop_14 : decode cX9_drop 14 = .ok (.aload_n 0, 1) := by decide +kernel
theorem dX9_drop_15 : decode cX9_drop 15 = .ok (.getfield 42, 3) := by decide +kernel
theorem dX9_drop_18 : decode cX9_drop 18 = .ok (.iload_n 1, 1) := by decide +kernel
theorem dX9_drop_19 : decode cX9_drop 19 = .ok (.iaload, 1) := by decide +kernel
theorem dX9_drop_20 : decode cX9_drop 20 = .ok (.ifCond .ge 6, 3) := by decide +kernel
theorem dX9_drop_23 : decode cX9_drop 23 = .ok (.bipush (-11), 2) := by decide +kernel
theorem dX9_drop_25 : decode cX9_drop 25 = .ok (.ireturn, 1) := by decide +kernel
theorem dX9_drop_26 : decode cX9_drop 26 = .ok (.aload_n 0, 1) := by decide +kernel
theorem dX9_drop_27 : decode cX9_drop 27 = .ok (.getfield 42, 3) := by decide +kernel
theorem dX9_drop_30 : decode cX9_drop 30 = .ok (.iload_n 1, 1) := by decide +kernel
theorem dX9_drop_31 : decode cX9_drop 31 = .ok (.iconst (-1), 1) := by decide +kernel
theorem dX9_drop_32 : decode cX9_drop 32 = .ok (.iastore, 1) := by decide +kernel
theorem dX9_drop_33 : decode cX9_drop 33 = .ok (.aload_n 0, 1) := by decide +kernel
theorem dX9_drop_34 : decode cX9_drop 34 = .ok (.getfield 45, 3) := by decide +kernel
theorem dX9_drop_37 : decode cX9_drop 37 = .ok (.iload_n 1, 1) := by decide +kernel
theorem dX9_drop_38 : decode cX9_drop 38 = .ok (.iaload, 1) := by decide +kernel
theorem dX9_drop_39 : decode cX9_drop 39 = .ok (.ireturn, 1) := by decide +kernel
set_option maxRecDepth 20000 in
theorem ggX9_item_X9_isSheet : GoodIn wsX9_item wsX9_isSheet := goodIn_sub (am_cons (List.mem_cons_of_mem _ (List.mem_append_left _ (List.mem_of_getElem? (i := 8) rfl))) (am_cons (List.mem_cons_of_mem _ (List.mem_append_left _ (List.mem_of_getElem? (i := 9) rfl))) (am_cons (List.mem_cons_of_mem _ (List.mem_append_left _ (List.mem_of_getElem? (i := 10) rfl))) (am_cons (List.mem_cons_of_mem _ (List.mem_append_left _ (List.mem_of_getElem? (i := 11) rfl))) (am_cons (List.mem_cons_of_mem _ (List.mem_append_left _ (List.mem_of_getElem? (i := 12) rfl))) (am_cons (List.mem_cons_of_mem _ (List.mem_append_left _ (List.mem_of_getElem? (i := 7) rfl))) (am_cons (List.mem_cons_of_mem _ (List.mem_append_left _ (List.mem_of_getElem? (i := 13) rfl))) am_nil))))))) (by decide +kernel)
set_option maxRecDepth 20000 in
theorem gX9_item_X9_isSheet : GoodIn wsX9_item (va_wsS RX9 161 yX9_isSheet wsX9_isSheet) := goodIn_app (goodIn_sub (am_cons (List.mem_cons_of_mem _ (List.mem_append_left _ (List.mem_of_getElem? (i := 5) rfl))) (am_cons (List.mem_cons_of_mem _ (List.mem_append_left _ (List.mem_of_getElem? (i := 6) rfl))) (am_cons (List.mem_cons_of_mem _ (List.mem_append_left _ (List.mem_of_getElem? (i := 7) rfl))) am_nil))) (by decide +kernel)) ggX9_item_X9_isSheet
set_option maxRecDepth 20000 in
theorem ggX9_item_X9_in : GoodIn wsX9_item wsX9_in := goodIn_sub (am_cons (List.mem_cons_of_mem _ (List.mem_append_left _ (List.mem_of_getElem? (i := 13) rfl))) (am_nil)) (by decide +kernel)
set_option maxRecDepth 20000 in
theorem gX9_item_X9_in : GoodIn wsX9_item (va_wsS RX9 96 yX9_in wsX9_in) := goodIn_app (goodIn_sub (am_cons (List.mem_cons_of_mem _ (List.mem_append_left _ (List.mem_of_getElem? (i := 11) rfl))) (am_cons (List.mem_cons_of_mem _ (List.mem_append_left _ (List.mem_of_getElem? (i := 12) rfl))) (am_cons (List.mem_cons_of_mem _ (List.mem_append_left _ (List.mem_of_getElem? (i := 7) rfl))) am_nil))) (by decide +kernel)) ggX9_item_X9_in
theorem dX9_item_0 : decode cX9_item 0 = .ok (.iload_n 1, 1) := by decide +kernel
theorem dX9_item_1 : decode cX9_item 1 = .ok (.iload_n 2, 1) := by decide +kernel
theorem dX9_item_2 : decode cX9_item 2 = .ok (.invokestatic 161, 3) := by decide +kernel
theorem dX9_item_5 : decode cX9_item 5 = .ok (.ifCond .eq 18, 3) := by decide +kernel
theorem dX9_item_8 : decode cX9_item 8 = .ok (.iload 4, 2) := by decide +kernel
theorem dX9_item_10 : decode cX9_item 10 = .ok (.i2l, 1) := by decide +kernel
theorem dX9_item_11 : decode cX9_item 11 = .ok (.ldc2_w 167, 3) := by decide +kernel
theorem dX9_item_14 : decode cX9_item 14 = .ok (.ldc2_w 169, 3) := by decide +kernel
theorem dX9_item_17 : decode cX9_item 17 = .ok (.invokestatic 96, 3) := by decide +kernel
theorem dX9_item_20 : decode cX9_item 20 = .ok (.ifCond .ne 5, 3) := by decide +kernel
theorem dX9_item_23 : decode cX9_item 23 = .ok (.iconst (-1), 1) := by decide +kernel
theorem dX9_item_24 : decode cX9_item 24 = .ok (.ireturn, 1) := by decide +kernel
theorem dX9_item_25 : decode cX9_item 25 = .ok (.aload_n 0, 1) := by decide +kernel
theorem dX9_item_26 : decode cX9_item 26 = .ok (.getfield 42, 3) := by decide +kernel
theorem dX9_item_29 : decode cX9_item 29 = .ok (.iload_n 1, 1) := by decide +kernel
theorem dX9_item_30 : decode cX9_item 30 = .ok (.iaload, 1) := by decide +kernel
theorem dX9_item_31 : decode cX9_item 31 = .ok (.iload_n 2, 1) := by decide +kernel
theorem dX9_item_32 : decode cX9_item 32 = .ok (.if_icmp .eq 20, 3) := by decide +kernel
theorem dX9_item_35 : decode cX9_item 35 = .ok (.aload_n 0, 1) := by decide +kernel
theorem dX9_item_36 : decode cX9_item 36 = .ok (.getfield 42, 3) := by decide +kernel
theorem dX9_item_39 : decode cX9_item 39 = .ok (.iload_n 1, 1) := by decide +kernel
theorem dX9_item_40 : decode cX9_item 40 = .ok (.iaload, 1) := by decide +kernel
theorem dX9_item_41 : decode cX9_item 41 = .ok (.ifCond .ge 8, 3) := by decide +kernel
theorem dX9_item_44 : decode cX9_item 44 = .ok (.bipush (-11), 2) := by decide +kernel
theorem dX9_item_46 : decode cX9_item 46 = .ok (.goto 5, 3) := by decide +kernel
theorem dX9_item_49 : decode cX9_item 49 = .ok (.bipush (-12), 2) := by decide +kernel
theorem dX9_item_51 : decode cX9_item 51 = .ok (.ireturn, 1) := by decide +kernel
theorem dX9_item_52 : decode cX9_item 52 = .ok (.iload_n 3, 1) := by decide +kernel
theorem dX9_item_53 : decode cX9_item 53 = .ok (.i2l, 1) := by decide +kernel
theorem dX9_item_54 : decode cX9_item 54 = .ok (.lconst 0, 1) := by decide +kernel
theorem dX9_item_55 : decode cX9_item 55 = .ok (.aload_n 0, 1) := by decide +kernel
theorem dX9_item_56 : decode cX9_item 56 = .ok (.getfield 45, 3) := by decide +kernel
theorem dX9_item_59 : decode cX9_item 59 = .ok (.iload_n 1, 1) := by decide +kernel
theorem dX9_item_60 : decode cX9_item 60 = .ok (.iaload, 1) := by decide +kernel
theorem dX9_item_61 : decode cX9_item 61 = .ok (.iconst 1, 1) := by decide +kernel
theorem dX9_item_62 : decode cX9_item 62 = .ok (.isub, 1) := by decide +kernel
theorem dX9_item_63 : decode cX9_item 63 = .ok (.i2l, 1) := by decide +kernel
theorem dX9_item_64 : decode cX9_item 64 = .ok (.invokestatic 96, 3) := by decide +kernel
theorem dX9_item_67 : decode cX9_item 67 = .ok (.ifCond .ne 6, 3) := by decide +kernel
theorem dX9_item_70 : decode cX9_item 70 = .ok (.bipush (-13), 2) := by decide +kernel
theorem dX9_item_72 : decode cX9_item 72 = .ok (.ireturn, 1) := by decide +kernel
theorem dX9_item_73 : decode cX9_item 73 = .ok (.aload_n 0, 1) := by decide +kernel
theorem dX9_item_74 : decode cX9_item 74 = .ok (.getfield 51, 3) := by decide +kernel
theorem dX9_item_77 : decode cX9_item 77 = .ok (.sipush 200, 3) := by decide +kernel
theorem dX9_item_80 : decode cX9_item 80 = .ok (.iload_n 1, 1) := by decide +kernel
theorem dX9_item_81 : decode cX9_item 81 = .ok (.imul, 1) := by decide +kernel
theorem dX9_item_82 : decode cX9_item 82 = .ok (.iload_n 3, 1) := by decide +kernel
theorem dX9_item_83 : decode cX9_item 83 = .ok (.iadd, 1) := by decide +kernel
theorem dX9_item_84 : decode cX9_item 84 = .ok (.iload_n 2, 1) := by decide +kernel
theorem dX9_item_85 : decode cX9_item 85 = .ok (.ifCond .ne 14, 3) := by decide +kernel
theorem dX9_item_88 : decode cX9_item 88 = .ok (.iload 4, 2) := by decide +kernel
theorem dX9_item_90 : decode cX9_item 90 = .ok (.bipush 24, 2) := by decide +kernel
theorem dX9_item_92 : decode cX9_item 92 = .ok (.ishl, 1) := by decide +kernel
theorem dX9_item_93 : decode cX9_item 93 = .ok (.bipush 24, 2) := by decide +kernel
theorem dX9_item_95 : decode cX9_item 95 = .ok (.ishr, 1) := by decide +kernel
theorem dX9_item_96 : decode cX9_item 96 = .ok (.goto 5, 3) := by decide +kernel
theorem dX9_item_99 : decode cX9_item 99 = .ok (.iload 4, 2) := by decide +kernel
theorem dX9_item_101 : decode cX9_item 101 = .ok (.iastore, 1) := by decide +kernel
theorem dX9_item_102 : decode cX9_item 102 = .ok (.iconst 1, 1) := by decide +kernel
theorem dX9_item_103 : decode cX9_item 103 = .ok (.ireturn, 1) := by decide +kernel
theorem dX9_down_0 : decode cX9_down 0 = .ok (.lload_n 0, 1) := by decide +kernel
theorem dX9_down_1 : decode cX9_down 1 = .ok (.lload_n 2, 1) := by decide +kernel
theorem dX9_down_2 : decode cX9_down 2 = .ok (.ldiv, 1) := by decide +kernel
theorem dX9_down_3 : decode cX9_down 3 = .ok (.lstore 4, 2) := by decide +kernel
theorem dX9_down_5 : decode cX9_down 5 = .ok (.lload_n 0, 1) := by decide +kernel
theorem dX9_down_6 : decode cX9_down 6 = .ok (.lload_n 2, 1) := by decide +kernel
theorem dX9_down_7 : decode cX9_down 7 = .ok (.lrem, 1) := by decide +kernel
theorem dX9_down_8 : decode cX9_down 8 = .ok (.lconst 0, 1) := by decide +kernel
theorem dX9_down_9 : decode cX9_down 9 = .ok (.lcmp, 1) := by decide +kernel
theorem dX9_down_10 : decode cX9_down 10 = .ok (.ifCond .eq 16, 3) := by decide +kernel
theorem dX9_down_13 : decode cX9_down 13 = .ok (.lload_n 0, 1) := by decide +kernel
theorem dX9_down_14 : decode cX9_down 14 = .ok (.lconst 0, 1) := by decide +kernel
theorem dX9_down_15 : decode cX9_down 15 = .ok (.lcmp, 1) := by decide +kernel
theorem dX9_down_16 : decode cX9_down 16 = .ok (.ifCond .ge 10, 3) := by decide +kernel
theorem dX9_down_19 : decode cX9_down 19 = .ok (.lload 4, 2) := by decide +kernel
theorem dX9_down_21 : decode cX9_down 21 = .ok (.lconst 1, 1) := by decide +kernel
theorem dX9_down_22 : decode cX9_down 22 = .ok (.lsub, 1) := by decide +kernel
theorem dX9_down_23 : decode cX9_down 23 = .ok (.goto 5, 3) := by decide +kernel
theorem dX9_down_26 : decode cX9_down 26 = .ok (.lload 4, 2) := by decide +kernel
theorem dX9_down_28 : decode cX9_down 28 = .ok (.lreturn, 1) := by decide +kernel
set_option maxRecDepth 20000 in
theorem ggX9_heard_X9_down : GoodIn wsX9_heard wsX9_down := goodIn_sub (am_cons (List.mem_cons_of_mem _ (List.mem_append_left _ (List.mem_of_getElem? (i := 5) rfl))) (am_nil)) (by decide +kernel)
set_option maxRecDepth 20000 in
theorem gX9_heard_X9_down : GoodIn wsX9_heard (va_wsS RX9 171 yX9_down wsX9_down) := goodIn_app (goodIn_sub (am_cons (List.mem_cons_of_mem _ (List.mem_append_left _ (List.mem_of_getElem? (i := 2) rfl))) (am_cons (List.mem_cons_of_mem _ (List.mem_append_left _ (List.mem_of_getElem? (i := 3) rfl))) (am_cons (List.mem_cons_of_mem _ (List.mem_append_left _ (List.mem_of_getElem? (i := 4) rfl))) am_nil))) (by decide +kernel)) ggX9_heard_X9_down
theorem dX9_heard_0 : decode cX9_heard 0 = .ok (.aload_n 0, 1) := by decide +kernel
theorem dX9_heard_1 : decode cX9_heard 1 = .ok (.getfield 48, 3) := by decide +kernel
theorem dX9_heard_4 : decode cX9_heard 4 = .ok (.iload_n 1, 1) := by decide +kernel
theorem dX9_heard_5 : decode cX9_heard 5 = .ok (.iaload, 1) := by decide +kernel
theorem dX9_heard_6 : decode cX9_heard 6 = .ok (.istore_n 3, 1) := by decide +kernel
theorem dX9_heard_7 : decode cX9_heard 7 = .ok (.iload_n 2, 1) := by decide +kernel
theorem dX9_heard_8 : decode cX9_heard 8 = .ok (.iload_n 3, 1) := by decide +kernel
theorem dX9_heard_9 : decode cX9_heard 9 = .ok (.idiv, 1) := by decide +kernel
theorem dX9_heard_10 : decode cX9_heard 10 = .ok (.istore 4, 2) := by decide +kernel
theorem dX9_heard_12 : decode cX9_heard 12 = .ok (.iload_n 2, 1) := by decide +kernel
theorem dX9_heard_13 : decode cX9_heard 13 = .ok (.iload_n 3, 1) := by decide +kernel
theorem dX9_heard_14 : decode cX9_heard 14 = .ok (.irem, 1) := by decide +kernel
theorem dX9_heard_15 : decode cX9_heard 15 = .ok (.istore 5, 2) := by decide +kernel
theorem dX9_heard_17 : decode cX9_heard 17 = .ok (.sipush 200, 3) := by decide +kernel
theorem dX9_heard_20 : decode cX9_heard 20 = .ok (.iload_n 1, 1) := by decide +kernel
theorem dX9_heard_21 : decode cX9_heard 21 = .ok (.imul, 1) := by decide +kernel
theorem dX9_heard_22 : decode cX9_heard 22 = .ok (.iload 4, 2) := by decide +kernel
theorem dX9_heard_24 : decode cX9_heard 24 = .ok (.iadd, 1) := by decide +kernel
theorem dX9_heard_25 : decode cX9_heard 25 = .ok (.istore 6, 2) := by decide +kernel
theorem dX9_heard_27 : decode cX9_heard 27 = .ok (.iload 5, 2) := by decide +kernel
theorem dX9_heard_29 : decode cX9_heard 29 = .ok (.ifCond .ne 14, 3) := by decide +kernel
theorem dX9_heard_32 : decode cX9_heard 32 = .ok (.aload_n 0, 1) := by decide +kernel
theorem dX9_heard_33 : decode cX9_heard 33 = .ok (.getfield 51, 3) := by decide +kernel
theorem dX9_heard_36 : decode cX9_heard 36 = .ok (.iload 6, 2) := by decide +kernel
theorem dX9_heard_38 : decode cX9_heard 38 = .ok (.iaload, 1) := by decide +kernel
theorem dX9_heard_39 : decode cX9_heard 39 = .ok (.i2l, 1) := by decide +kernel
theorem dX9_heard_40 : decode cX9_heard 40 = .ok (.goto 37, 3) := by decide +kernel
theorem dX9_heard_43 : decode cX9_heard 43 = .ok (.aload_n 0, 1) := by decide +kernel
theorem dX9_heard_44 : decode cX9_heard 44 = .ok (.getfield 51, 3) := by decide +kernel
theorem dX9_heard_47 : decode cX9_heard 47 = .ok (.iload 6, 2) := by decide +kernel
theorem dX9_heard_49 : decode cX9_heard 49 = .ok (.iaload, 1) := by decide +kernel
theorem dX9_heard_50 : decode cX9_heard 50 = .ok (.i2l, 1) := by decide +kernel
theorem dX9_heard_51 : decode cX9_heard 51 = .ok (.iload_n 3, 1) := by decide +kernel
theorem dX9_heard_52 : decode cX9_heard 52 = .ok (.iload 5, 2) := by decide +kernel
theorem dX9_heard_54 : decode cX9_heard 54 = .ok (.isub, 1) := by decide +kernel
theorem dX9_heard_55 : decode cX9_heard 55 = .ok (.i2l, 1) := by decide +kernel
theorem dX9_heard_56 : decode cX9_heard 56 = .ok (.lmul, 1) := by decide +kernel
theorem dX9_heard_57 : decode cX9_heard 57 = .ok (.aload_n 0, 1) := by decide +kernel
theorem dX9_heard_58 : decode cX9_heard 58 = .ok (.getfield 51, 3) := by decide +kernel
theorem dX9_heard_61 : decode cX9_heard 61 = .ok (.iload 6, 2) := by decide +kernel
theorem dX9_heard_63 : decode cX9_heard 63 = .ok (.iconst 1, 1) := by decide +kernel
theorem dX9_heard_64 : decode cX9_heard 64 = .ok (.iadd, 1) := by decide +kernel
theorem dX9_heard_65 : decode cX9_heard 65 = .ok (.iaload, 1) := by decide +kernel
theorem dX9_heard_66 : decode cX9_heard 66 = .ok (.i2l, 1) := by decide +kernel
theorem dX9_heard_67 : decode cX9_heard 67 = .ok (.iload 5, 2) := by decide +kernel
theorem dX9_heard_69 : decode cX9_heard 69 = .ok (.i2l, 1) := by decide +kernel
theorem dX9_heard_70 : decode cX9_heard 70 = .ok (.lmul, 1) := by decide +kernel
theorem dX9_heard_71 : decode cX9_heard 71 = .ok (.ladd, 1) := by decide +kernel
theorem dX9_heard_72 : decode cX9_heard 72 = .ok (.iload_n 3, 1) := by decide +kernel
theorem dX9_heard_73 : decode cX9_heard 73 = .ok (.i2l, 1) := by decide +kernel
theorem dX9_heard_74 : decode cX9_heard 74 = .ok (.invokestatic 171, 3) := by decide +kernel
theorem dX9_heard_77 : decode cX9_heard 77 = .ok (.lreturn, 1) := by decide +kernel
set_option maxRecDepth 20000 in
theorem ggX9_cut_X9_in : GoodIn wsX9_cut wsX9_in := goodIn_sub (am_cons (List.mem_cons_of_mem _ (List.mem_append_left _ (List.mem_append_left _ (List.mem_of_getElem? (i := 14) rfl)))) (am_nil)) (by decide +kernel)
set_option maxRecDepth 20000 in
theorem gX9_cut_X9_in : GoodIn wsX9_cut (va_wsS RX9 96 yX9_in wsX9_in) := goodIn_app (goodIn_sub (am_cons (List.mem_cons_of_mem _ (List.mem_append_left _ (List.mem_append_left _ (List.mem_of_getElem? (i := 11) rfl)))) (am_cons (List.mem_cons_of_mem _ (List.mem_append_left _ (List.mem_append_left _ (List.mem_of_getElem? (i := 12) rfl)))) (am_cons (List.mem_cons_of_mem _ (List.mem_append_left _ (List.mem_append_left _ (List.mem_of_getElem? (i := 13) rfl)))) am_nil))) (by decide +kernel)) ggX9_cut_X9_in
set_option maxRecDepth 20000 in
theorem ggX9_cut_X9_mend : GoodIn wsX9_cut wsX9_mend := goodIn_sub (am_cons (List.mem_cons_of_mem _ (List.mem_append_left _ (List.mem_append_left _ (List.mem_of_getElem? (i := 18) rfl)))) (am_app (am_cons (List.mem_cons_of_mem _ (List.mem_append_left _ (List.mem_append_left _ (List.mem_of_getElem? (i := 3) rfl)))) (am_cons (List.mem_cons_of_mem _ (List.mem_append_left _ (List.mem_append_left _ (List.mem_of_getElem? (i := 19) rfl)))) (am_cons (List.mem_cons_of_mem _ (List.mem_append_left _ (List.mem_append_left _ (List.mem_of_getElem? (i := 5) rfl)))) (am_cons (List.mem_cons_of_mem _ (List.mem_append_left _ (List.mem_append_left _ (List.mem_of_getElem? (i := 20) rfl)))) (am_cons (List.mem_cons_of_mem _ (List.mem_append_left _ (List.mem_append_left _ (List.mem_of_getElem? (i := 21) rfl)))) (am_cons (List.mem_cons_of_mem _ (List.mem_append_left _ (List.mem_append_left _ (List.mem_of_getElem? (i := 0) rfl)))) (am_cons (List.mem_cons_of_mem _ (List.mem_append_left _ (List.mem_append_left _ (List.mem_of_getElem? (i := 22) rfl)))) (am_cons (List.mem_cons_of_mem _ (List.mem_append_left _ (List.mem_append_left _ (List.mem_of_getElem? (i := 23) rfl)))) (am_cons (List.mem_cons_of_mem _ (List.mem_append_left _ (List.mem_append_right _ (List.mem_of_getElem? (i := 0) rfl)))) (am_cons (List.mem_cons_of_mem _ (List.mem_append_left _ (List.mem_append_left _ (List.mem_of_getElem? (i := 13) rfl)))) (am_cons (List.mem_cons_of_mem _ (List.mem_append_left _ (List.mem_append_right _ (List.mem_of_getElem? (i := 1) rfl)))) am_nil))))))))))) (fun _ h => List.mem_cons_of_mem _ (List.mem_append_right _ (h))))) (by decide +kernel)
set_option maxRecDepth 20000 in
theorem gX9_cut_X9_mend : GoodIn wsX9_cut (wsV RX9 158 RX9 yX9_mend wsX9_mend) := goodIn_app (goodIn_sub (am_cons (List.mem_cons_of_mem _ (List.mem_append_left _ (List.mem_append_left _ (List.mem_of_getElem? (i := 15) rfl)))) (am_cons (List.mem_cons_of_mem _ (List.mem_append_left _ (List.mem_append_left _ (List.mem_of_getElem? (i := 16) rfl)))) (am_cons (List.mem_cons_of_mem _ (List.mem_append_left _ (List.mem_append_left _ (List.mem_of_getElem? (i := 17) rfl)))) (am_cons (List.mem_cons_of_mem _ (List.mem_append_left _ (List.mem_append_left _ (List.mem_of_getElem? (i := 13) rfl)))) am_nil)))) (by decide +kernel)) ggX9_cut_X9_mend
set_option maxRecDepth 20000 in
theorem ggX9_cut_X9_heard : GoodIn wsX9_cut wsX9_heard := goodIn_sub (am_cons (List.mem_cons_of_mem _ (List.mem_append_left _ (List.mem_append_right _ (List.mem_of_getElem? (i := 5) rfl)))) (am_app (am_cons (List.mem_cons_of_mem _ (List.mem_append_left _ (List.mem_append_left _ (List.mem_of_getElem? (i := 8) rfl)))) (am_cons (List.mem_cons_of_mem _ (List.mem_append_left _ (List.mem_append_right _ (List.mem_of_getElem? (i := 6) rfl)))) (am_cons (List.mem_cons_of_mem _ (List.mem_append_left _ (List.mem_append_right _ (List.mem_of_getElem? (i := 7) rfl)))) (am_cons (List.mem_cons_of_mem _ (List.mem_append_left _ (List.mem_append_right _ (List.mem_of_getElem? (i := 8) rfl)))) (am_cons (List.mem_cons_of_mem _ (List.mem_append_left _ (List.mem_append_left _ (List.mem_of_getElem? (i := 13) rfl)))) (am_cons (List.mem_cons_of_mem _ (List.mem_append_left _ (List.mem_append_right _ (List.mem_of_getElem? (i := 9) rfl)))) am_nil)))))) (fun _ h => List.mem_cons_of_mem _ (List.mem_append_right _ (h))))) (by decide +kernel)
set_option maxRecDepth 20000 in
theorem gX9_cut_X9_heard : GoodIn wsX9_cut (wsV RX9 179 RX9 yX9_heard wsX9_heard) := goodIn_app (goodIn_sub (am_cons (List.mem_cons_of_mem _ (List.mem_append_left _ (List.mem_append_right _ (List.mem_of_getElem? (i := 2) rfl)))) (am_cons (List.mem_cons_of_mem _ (List.mem_append_left _ (List.mem_append_right _ (List.mem_of_getElem? (i := 3) rfl)))) (am_cons (List.mem_cons_of_mem _ (List.mem_append_left _ (List.mem_append_right _ (List.mem_of_getElem? (i := 4) rfl)))) (am_cons (List.mem_cons_of_mem _ (List.mem_append_left _ (List.mem_append_left _ (List.mem_of_getElem? (i := 13) rfl)))) am_nil)))) (by decide +kernel)) ggX9_cut_X9_heard
set_option maxRecDepth 20000 in
theorem ggX9_cut_X9_down : GoodIn wsX9_cut wsX9_down := goodIn_sub (am_cons (List.mem_cons_of_mem _ (List.mem_append_left _ (List.mem_append_right _ (List.mem_of_getElem? (i := 9) rfl)))) (am_nil)) (by decide +kernel)
set_option maxRecDepth 20000 in
theorem gX9_cut_X9_down : GoodIn wsX9_cut (va_wsS RX9 171 yX9_down wsX9_down) := goodIn_app (goodIn_sub (am_cons (List.mem_cons_of_mem _ (List.mem_append_left _ (List.mem_append_right _ (List.mem_of_getElem? (i := 7) rfl)))) (am_cons (List.mem_cons_of_mem _ (List.mem_append_left _ (List.mem_append_right _ (List.mem_of_getElem? (i := 8) rfl)))) (am_cons (List.mem_cons_of_mem _ (List.mem_append_left _ (List.mem_append_left _ (List.mem_of_getElem? (i := 13) rfl)))) am_nil))) (by decide +kernel)) ggX9_cut_X9_down
theorem dX9_cut_0 : decode cX9_cut 0 = .ok (.iload_n 1, 1) := by decide +kernel
theorem dX9_cut_1 : decode cX9_cut 1 = .ok (.i2l, 1) := by decide +kernel
theorem dX9_cut_2 : decode cX9_cut 2 = .ok (.lconst 0, 1) := by decide +kernel
theorem dX9_cut_3 : decode cX9_cut 3 = .ok (.ldc2_w 108, 3) := by decide +kernel
theorem dX9_cut_6 : decode cX9_cut 6 = .ok (.invokestatic 96, 3) := by decide +kernel
theorem dX9_cut_9 : decode cX9_cut 9 = .ok (.ifCond .eq 19, 3) := by decide +kernel
theorem dX9_cut_12 : decode cX9_cut 12 = .ok (.iload_n 2, 1) := by decide +kernel
theorem dX9_cut_13 : decode cX9_cut 13 = .ok (.ifCond .lt 15, 3) := by decide +kernel
theorem dX9_cut_16 : decode cX9_cut 16 = .ok (.iload_n 3, 1) := by decide +kernel
theorem dX9_cut_17 : decode cX9_cut 17 = .ok (.i2l, 1) := by decide +kernel
theorem dX9_cut_18 : decode cX9_cut 18 = .ok (.lconst 1, 1) := by decide +kernel
theorem dX9_cut_19 : decode cX9_cut 19 = .ok (.ldc2_w 175, 3) := by decide +kernel
theorem dX9_cut_22 : decode cX9_cut 22 = .ok (.invokestatic 96, 3) := by decide +kernel
theorem dX9_cut_25 : decode cX9_cut 25 = .ok (.ifCond .ne 5, 3) := by decide +kernel
theorem dX9_cut_28 : decode cX9_cut 28 = .ok (.iconst (-1), 1) := by decide +kernel
theorem dX9_cut_29 : decode cX9_cut 29 = .ok (.ireturn, 1) := by decide +kernel
theorem dX9_cut_30 : decode cX9_cut 30 = .ok (.aload_n 0, 1) := by decide +kernel
theorem dX9_cut_31 : decode cX9_cut 31 = .ok (.getfield 42, 3) := by decide +kernel
theorem dX9_cut_34 : decode cX9_cut 34 = .ok (.iload_n 1, 1) := by decide +kernel
theorem dX9_cut_35 : decode cX9_cut 35 = .ok (.iaload, 1) := by decide +kernel
theorem dX9_cut_36 : decode cX9_cut 36 = .ok (.ifCond .ge 6, 3) := by decide +kernel
theorem dX9_cut_39 : decode cX9_cut 39 = .ok (.bipush (-11), 2) := by decide +kernel
theorem dX9_cut_41 : decode cX9_cut 41 = .ok (.ireturn, 1) := by decide +kernel
theorem dX9_cut_42 : decode cX9_cut 42 = .ok (.aload_n 0, 1) := by decide +kernel
theorem dX9_cut_43 : decode cX9_cut 43 = .ok (.invokevirtual 158, 3) := by decide +kernel
theorem dX9_cut_46 : decode cX9_cut 46 = .ok (.iload_n 2, 1) := by decide +kernel
theorem dX9_cut_47 : decode cX9_cut 47 = .ok (.aload_n 0, 1) := by decide +kernel
theorem dX9_cut_48 : decode cX9_cut 48 = .ok (.getfield 151, 3) := by decide +kernel
theorem dX9_cut_51 : decode cX9_cut 51 = .ok (.iconst 1, 1) := by decide +kernel
theorem dX9_cut_52 : decode cX9_cut 52 = .ok (.isub, 1) := by decide +kernel
theorem dX9_cut_53 : decode cX9_cut 53 = .ok (.iload_n 3, 1) := by decide +kernel
theorem dX9_cut_54 : decode cX9_cut 54 = .ok (.isub, 1) := by decide +kernel
theorem dX9_cut_55 : decode cX9_cut 55 = .ok (.if_icmp .le 6, 3) := by decide +kernel
theorem dX9_cut_58 : decode cX9_cut 58 = .ok (.bipush (-2), 2) := by decide +kernel
theorem dX9_cut_60 : decode cX9_cut 60 = .ok (.ireturn, 1) := by decide +kernel
theorem dX9_cut_61 : decode cX9_cut 61 = .ok (.iconst 0, 1) := by decide +kernel
theorem dX9_cut_62 : decode cX9_cut 62 = .ok (.istore 4, 2) := by decide +kernel
theorem dX9_cut_64 : decode cX9_cut 64 = .ok (.iload 4, 2) := by decide +kernel
theorem dX9_cut_66 : decode cX9_cut 66 = .ok (.bipush 32, 2) := by decide +kernel
theorem dX9_cut_68 : decode cX9_cut 68 = .ok (.if_icmp .ge 17, 3) := by decide +kernel
theorem dX9_cut_71 : decode cX9_cut 71 = .ok (.aload_n 0, 1) := by decide +kernel
theorem dX9_cut_72 : decode cX9_cut 72 = .ok (.getfield 57, 3) := by decide +kernel
theorem dX9_cut_75 : decode cX9_cut 75 = .ok (.iload 4, 2) := by decide +kernel
theorem dX9_cut_77 : decode cX9_cut 77 = .ok (.lconst 0, 1) := by decide +kernel
theorem dX9_cut_78 : decode cX9_cut 78 = .ok (.lastore, 1) := by decide +kernel
theorem dX9_cut_79 : decode cX9_cut 79 = .ok (.iinc 4 1, 3) := by decide +kernel
theorem dX9_cut_82 : decode cX9_cut 82 = .ok (.goto (-18), 3) := by decide +kernel
theorem dX9_cut_85 : decode cX9_cut 85 = .ok (.iload_n 2, 1) := by decide +kernel
theorem dX9_cut_86 : decode cX9_cut 86 = .ok (.istore 4, 2) := by decide +kernel
theorem dX9_cut_88 : decode cX9_cut 88 = .ok (.iload 4, 2) := by decide +kernel
theorem dX9_cut_90 : decode cX9_cut 90 = .ok (.iload_n 2, 1) := by decide +kernel
theorem dX9_cut_91 : decode cX9_cut 91 = .ok (.iload_n 3, 1) := by decide +kernel
theorem dX9_cut_92 : decode cX9_cut 92 = .ok (.iadd, 1) := by decide +kernel
theorem dX9_cut_93 : decode cX9_cut 93 = .ok (.if_icmp .ge 105, 3) := by decide +kernel
theorem dX9_cut_96 : decode cX9_cut 96 = .ok (.aload_n 0, 1) := by decide +kernel
theorem dX9_cut_97 : decode cX9_cut 97 = .ok (.getfield 39, 3) := by decide +kernel
theorem dX9_cut_100 : decode cX9_cut 100 = .ok (.iload 4, 2) := by decide +kernel
theorem dX9_cut_102 : decode cX9_cut 102 = .ok (.iaload, 1) := by decide +kernel
theorem dX9_cut_103 : decode cX9_cut 103 = .ok (.istore 5, 2) := by decide +kernel
theorem dX9_cut_105 : decode cX9_cut 105 = .ok (.aload_n 0, 1) := by decide +kernel
theorem dX9_cut_106 : decode cX9_cut 106 = .ok (.getfield 39, 3) := by decide +kernel
theorem dX9_cut_109 : decode cX9_cut 109 = .ok (.iload 4, 2) := by decide +kernel
theorem dX9_cut_111 : decode cX9_cut 111 = .ok (.iconst 1, 1) := by decide +kernel
theorem dX9_cut_112 : decode cX9_cut 112 = .ok (.iadd, 1) := by decide +kernel
theorem dX9_cut_113 : decode cX9_cut 113 = .ok (.iaload, 1) := by decide +kernel
theorem dX9_cut_114 : decode cX9_cut 114 = .ok (.iload 5, 2) := by decide +kernel
theorem dX9_cut_116 : decode cX9_cut 116 = .ok (.isub, 1) := by decide +kernel
theorem dX9_cut_117 : decode cX9_cut 117 = .ok (.i2l, 1) := by decide +kernel
theorem dX9_cut_118 : decode cX9_cut 118 = .ok (.lstore 6, 2) := by decide +kernel
theorem dX9_cut_120 : decode cX9_cut 120 = .ok (.iconst 0, 1) := by decide +kernel
theorem dX9_cut_121 : decode cX9_cut 121 = .ok (.istore 8, 2) := by decide +kernel
theorem dX9_cut_123 : decode cX9_cut 123 = .ok (.iload 8, 2) := by decide +kernel
theorem dX9_cut_125 : decode cX9_cut 125 = .ok (.bipush 32, 2) := by decide +kernel
theorem dX9_cut_127 : decode cX9_cut 127 = .ok (.if_icmp .ge 65, 3) := by decide +kernel
theorem dX9_cut_130 : decode cX9_cut 130 = .ok (.iload 5, 2) := by decide +kernel
theorem dX9_cut_132 : decode cX9_cut 132 = .ok (.lload 6, 2) := by decide +kernel
theorem dX9_cut_134 : decode cX9_cut 134 = .ok (.iload 8, 2) := by decide +kernel
theorem dX9_cut_136 : decode cX9_cut 136 = .ok (.i2l, 1) := by decide +kernel
theorem dX9_cut_137 : decode cX9_cut 137 = .ok (.lmul, 1) := by decide +kernel
theorem dX9_cut_138 : decode cX9_cut 138 = .ok (.ldc2_w 177, 3) := by decide +kernel
theorem dX9_cut_141 : decode cX9_cut 141 = .ok (.ldiv, 1) := by decide +kernel
theorem dX9_cut_142 : decode cX9_cut 142 = .ok (.l2i, 1) := by decide +kernel
theorem dX9_cut_143 : decode cX9_cut 143 = .ok (.iadd, 1) := by decide +kernel
theorem dX9_cut_144 : decode cX9_cut 144 = .ok (.istore 9, 2) := by decide +kernel
theorem dX9_cut_146 : decode cX9_cut 146 = .ok (.iload 9, 2) := by decide +kernel
theorem dX9_cut_148 : decode cX9_cut 148 = .ok (.aload_n 0, 1) := by decide +kernel
theorem dX9_cut_149 : decode cX9_cut 149 = .ok (.getfield 45, 3) := by decide +kernel
theorem dX9_cut_152 : decode cX9_cut 152 = .ok (.iload_n 1, 1) := by decide +kernel
theorem dX9_cut_153 : decode cX9_cut 153 = .ok (.iaload, 1) := by decide +kernel
theorem dX9_cut_154 : decode cX9_cut 154 = .ok (.iconst 1, 1) := by decide +kernel
theorem dX9_cut_155 : decode cX9_cut 155 = .ok (.isub, 1) := by decide +kernel
theorem dX9_cut_156 : decode cX9_cut 156 = .ok (.aload_n 0, 1) := by decide +kernel
theorem dX9_cut_157 : decode cX9_cut 157 = .ok (.getfield 48, 3) := by decide +kernel
theorem dX9_cut_160 : decode cX9_cut 160 = .ok (.iload_n 1, 1) := by decide +kernel
theorem dX9_cut_161 : decode cX9_cut 161 = .ok (.iaload, 1) := by decide +kernel
theorem dX9_cut_162 : decode cX9_cut 162 = .ok (.imul, 1) := by decide +kernel
theorem dX9_cut_163 : decode cX9_cut 163 = .ok (.if_icmp .le 6, 3) := by decide +kernel
theorem dX9_cut_166 : decode cX9_cut 166 = .ok (.bipush (-2), 2) := by decide +kernel
theorem dX9_cut_168 : decode cX9_cut 168 = .ok (.ireturn, 1) := by decide +kernel
theorem dX9_cut_169 : decode cX9_cut 169 = .ok (.aload_n 0, 1) := by decide +kernel
theorem dX9_cut_170 : decode cX9_cut 170 = .ok (.getfield 57, 3) := by decide +kernel
theorem dX9_cut_173 : decode cX9_cut 173 = .ok (.iload 8, 2) := by decide +kernel
theorem dX9_cut_175 : decode cX9_cut 175 = .ok (.dup2, 1) := by decide +kernel
theorem dX9_cut_176 : decode cX9_cut 176 = .ok (.laload, 1) := by decide +kernel
theorem dX9_cut_177 : decode cX9_cut 177 = .ok (.aload_n 0, 1) := by decide +kernel
theorem dX9_cut_178 : decode cX9_cut 178 = .ok (.iload_n 1, 1) := by decide +kernel
theorem dX9_cut_179 : decode cX9_cut 179 = .ok (.iload 9, 2) := by decide +kernel
theorem dX9_cut_181 : decode cX9_cut 181 = .ok (.invokevirtual 179, 3) := by decide +kernel
theorem dX9_cut_184 : decode cX9_cut 184 = .ok (.ladd, 1) := by decide +kernel
theorem dX9_cut_185 : decode cX9_cut 185 = .ok (.lastore, 1) := by decide +kernel
theorem dX9_cut_186 : decode cX9_cut 186 = .ok (.iinc 8 1, 3) := by decide +kernel
theorem dX9_cut_189 : decode cX9_cut 189 = .ok (.goto (-66), 3) := by decide +kernel
theorem dX9_cut_192 : decode cX9_cut 192 = .ok (.iinc 4 1, 3) := by decide +kernel
theorem dX9_cut_195 : decode cX9_cut 195 = .ok (.goto (-107), 3) := by decide +kernel
theorem dX9_cut_198 : decode cX9_cut 198 = .ok (.iconst 0, 1) := by decide +kernel
theorem dX9_cut_199 : decode cX9_cut 199 = .ok (.istore 4, 2) := by decide +kernel
theorem dX9_cut_201 : decode cX9_cut 201 = .ok (.iload 4, 2) := by decide +kernel
theorem dX9_cut_203 : decode cX9_cut 203 = .ok (.bipush 32, 2) := by decide +kernel
theorem dX9_cut_205 : decode cX9_cut 205 = .ok (.if_icmp .ge 29, 3) := by decide +kernel
theorem dX9_cut_208 : decode cX9_cut 208 = .ok (.aload_n 0, 1) := by decide +kernel
theorem dX9_cut_209 : decode cX9_cut 209 = .ok (.getfield 54, 3) := by decide +kernel
theorem dX9_cut_212 : decode cX9_cut 212 = .ok (.iload 4, 2) := by decide +kernel
theorem dX9_cut_214 : decode cX9_cut 214 = .ok (.aload_n 0, 1) := by decide +kernel
theorem dX9_cut_215 : decode cX9_cut 215 = .ok (.getfield 57, 3) := by decide +kernel
theorem dX9_cut_218 : decode cX9_cut 218 = .ok (.iload 4, 2) := by decide +kernel
theorem dX9_cut_220 : decode cX9_cut 220 = .ok (.laload, 1) := by decide +kernel
theorem dX9_cut_221 : decode cX9_cut 221 = .ok (.iload_n 3, 1) := by decide +kernel
theorem dX9_cut_222 : decode cX9_cut 222 = .ok (.i2l, 1) := by decide +kernel
theorem dX9_cut_223 : decode cX9_cut 223 = .ok (.invokestatic 171, 3) := by decide +kernel
theorem dX9_cut_226 : decode cX9_cut 226 = .ok (.l2i, 1) := by decide +kernel
theorem dX9_cut_227 : decode cX9_cut 227 = .ok (.iastore, 1) := by decide +kernel
theorem dX9_cut_228 : decode cX9_cut 228 = .ok (.iinc 4 1, 3) := by decide +kernel
