set_option maxRecDepth 20000 in
theorem ggL_addPulsed_X10_addPulsed : GoodIn wsL_addPulsed wsX10_addPulsed := goodIn_ca (goodIn_ca (goodIn_r _ [7, 8, 9, 10, 11, 12, 6, 13, 14, 15, 16, 17, 18, 19, 20, 21, 22, 23, 24, 25, 26, 27, 28, 29, 30, 31, 32, 33, 34, 35, 36, 37, 38, 39, 40, 41, 42, 43, 44, 45, 46, 47, 48, 49, 50, 51, 52, 53, 54, 55, 56, 57, 58, 59, 60, 61, 62, 63, 64, 65, 66, 67, 68, 69, 70, 71, 72, 73, 74, 75, 76, 77, 78, 79, 80, 81, 82, 83, 84, 85, 86, 87, 88, 89, 90, 91, 92, 93, 94, 95, 96, 97, 98, 99, 100, 101, 102, 103, 104, 105, 106, 107, 108, 109, 110, 111, 112, 113, 114, 115, 116, 117, 118, 119, 120, 121, 122, 123, 124, 125, 126, 127, 128, 129, 130, 131, 132, 133, 134, 135, 136, 137, 138, 139, 140, 141, 142, 143, 144, 145, 146, 147, 148, 149, 150, 151] (by decide +kernel) (by decide +kernel)) (goodIn_sub (fun _ h => List.mem_cons_of_mem _ (List.mem_append_left _ (List.mem_append_right _ h))) (by decide +kernel))) (goodIn_sub (fun _ h => List.mem_cons_of_mem _ (List.mem_append_right _ h)) (by decide +kernel))
set_option maxRecDepth 20000 in
theorem gL_addPulsed_X10_addPulsed : GoodIn wsL_addPulsed (wsV RL 7 RX10 yX10_addPulsed wsX10_addPulsed) := goodIn_app (goodIn_of _ (by decide +kernel)) ggL_addPulsed_X10_addPulsed
theorem dL_addPulsed_0 : decode cL_addPulsed 0 = .ok (.aload 6, 2) := by decide +kernel
theorem dL_addPulsed_2 : decode cL_addPulsed 2 = .ok (.iconst 0, 1) := by decide +kernel
theorem dL_addPulsed_3 : decode cL_addPulsed 3 = .ok (.aload_n 0, 1) := by decide +kernel
theorem dL_addPulsed_4 : decode cL_addPulsed 4 = .ok (.iload_n 1, 1) := by decide +kernel
theorem dL_addPulsed_5 : decode cL_addPulsed 5 = .ok (.iload_n 2, 1) := by decide +kernel
theorem dL_addPulsed_6 : decode cL_addPulsed 6 = .ok (.iload_n 3, 1) := by decide +kernel
theorem dL_addPulsed_7 : decode cL_addPulsed 7 = .ok (.iload 4, 2) := by decide +kernel
theorem dL_addPulsed_9 : decode cL_addPulsed 9 = .ok (.iload 5, 2) := by decide +kernel
theorem dL_addPulsed_11 : decode cL_addPulsed 11 = .ok (.invokevirtual 7, 3) := by decide +kernel
theorem dL_addPulsed_14 : decode cL_addPulsed 14 = .ok (.i2l, 1) := by decide +kernel
theorem dL_addPulsed_15 : decode cL_addPulsed 15 = .ok (.lastore, 1) := by decide +kernel
theorem dL_addPulsed_16 : decode cL_addPulsed 16 = .ok (.goto 11, 3) := by decide +kernel
theorem dL_addPulsed_19 : decode cL_addPulsed 19 = .ok (.astore 7, 2) := by decide +kernel
theorem dL_addPulsed_21 : decode cL_addPulsed 21 = .ok (.iconst 1, 1) := by decide +kernel
theorem dL_addPulsed_22 : decode cL_addPulsed 22 = .ok (.ireturn, 1) := by decide +kernel
theorem dL_addPulsed_23 : decode cL_addPulsed 23 = .ok (.astore 7, 2) := by decide +kernel
theorem dL_addPulsed_25 : decode cL_addPulsed 25 = .ok (.iconst 2, 1) := by decide +kernel
theorem dL_addPulsed_26 : decode cL_addPulsed 26 = .ok (.ireturn, 1) := by decide +kernel
theorem dL_addPulsed_27 : decode cL_addPulsed 27 = .ok (.iconst 0, 1) := by decide +kernel
theorem dL_addPulsed_28 : decode cL_addPulsed 28 = .ok (.ireturn, 1) := by decide +kernel
set_option maxRecDepth 20000 in
theorem ggL_addHopping_X10_addHopping : GoodIn wsL_addHopping wsX10_addHopping := goodIn_ca (goodIn_ca (goodIn_r _ [7, 8, 9, 10, 11, 12, 6, 13, 14, 15, 16, 17, 18, 19, 20, 21, 22, 23, 24, 25, 26, 27, 28, 29, 30, 31, 32, 33, 34, 35, 36, 37, 38, 39, 40, 41, 42, 43, 44, 45, 46, 47, 48, 49, 50, 51, 52, 53, 54, 55, 56, 57, 58, 59, 60, 61, 62, 63, 64, 65, 66, 67, 68, 69, 70, 71, 72, 73, 74, 75, 76, 77, 78, 79, 80, 81, 82, 83, 84, 85, 86, 87, 88, 89, 90, 91, 92, 93, 94, 95, 96, 97, 98, 99, 100, 101, 102, 103, 104, 105, 106, 107, 108, 109, 110, 111, 112, 113, 114, 115, 116, 117, 118, 119, 120, 121, 122, 123, 124, 125, 126, 127, 128, 129, 130, 131, 132, 133, 134, 135, 136, 137, 138, 139, 140, 141, 142, 143, 144, 145, 146, 147, 148, 149, 150, 151] (by decide +kernel) (by decide +kernel)) (goodIn_sub (fun _ h => List.mem_cons_of_mem _ (List.mem_append_left _ (List.mem_append_right _ h))) (by decide +kernel))) (goodIn_sub (fun _ h => List.mem_cons_of_mem _ (List.mem_append_right _ h)) (by decide +kernel))
set_option maxRecDepth 20000 in
theorem gL_addHopping_X10_addHopping : GoodIn wsL_addHopping (wsV RL 17 RX10 yX10_addHopping wsX10_addHopping) := goodIn_app (goodIn_of _ (by decide +kernel)) ggL_addHopping_X10_addHopping
theorem dL_addHopping_0 : decode cL_addHopping 0 = .ok (.aload 6, 2) := by decide +kernel
theorem dL_addHopping_2 : decode cL_addHopping 2 = .ok (.iconst 0, 1) := by decide +kernel
theorem dL_addHopping_3 : decode cL_addHopping 3 = .ok (.aload_n 0, 1) := by decide +kernel
theorem dL_addHopping_4 : decode cL_addHopping 4 = .ok (.iload_n 1, 1) := by decide +kernel
theorem dL_addHopping_5 : decode cL_addHopping 5 = .ok (.iload_n 2, 1) := by decide +kernel
theorem dL_addHopping_6 : decode cL_addHopping 6 = .ok (.iload_n 3, 1) := by decide +kernel
theorem dL_addHopping_7 : decode cL_addHopping 7 = .ok (.iload 4, 2) := by decide +kernel
theorem dL_addHopping_9 : decode cL_addHopping 9 = .ok (.iload 5, 2) := by decide +kernel
theorem dL_addHopping_11 : decode cL_addHopping 11 = .ok (.invokevirtual 17, 3) := by decide +kernel
theorem dL_addHopping_14 : decode cL_addHopping 14 = .ok (.i2l, 1) := by decide +kernel
theorem dL_addHopping_15 : decode cL_addHopping 15 = .ok (.lastore, 1) := by decide +kernel
theorem dL_addHopping_16 : decode cL_addHopping 16 = .ok (.goto 11, 3) := by decide +kernel
theorem dL_addHopping_19 : decode cL_addHopping 19 = .ok (.astore 7, 2) := by decide +kernel
theorem dL_addHopping_21 : decode cL_addHopping 21 = .ok (.iconst 1, 1) := by decide +kernel
theorem dL_addHopping_22 : decode cL_addHopping 22 = .ok (.ireturn, 1) := by decide +kernel
theorem dL_addHopping_23 : decode cL_addHopping 23 = .ok (.astore 7, 2) := by decide +kernel
theorem dL_addHopping_25 : decode cL_addHopping 25 = .ok (.iconst 2, 1) := by decide +kernel
theorem dL_addHopping_26 : decode cL_addHopping 26 = .ok (.ireturn, 1) := by decide +kernel
theorem dL_addHopping_27 : decode cL_addHopping 27 = .ok (.iconst 0, 1) := by decide +kernel
theorem dL_addHopping_28 : decode cL_addHopping 28 = .ok (.ireturn, 1) := by decide +kernel
set_option maxRecDepth 20000 in
theorem ggL_removeSignal_X10_removeSignal : GoodIn wsL_removeSignal wsX10_removeSignal := goodIn_ca (goodIn_r _ [6, 7, 8, 9, 10, 5, 11, 12, 13, 14, 15, 16, 17, 18, 19, 20, 21, 22, 23, 24, 25, 26, 27, 28, 29, 30, 31, 32, 33, 34, 35, 36, 37, 38, 39, 40, 41, 42, 43, 44, 45, 46, 47, 48, 49, 50, 51, 52, 53, 54, 55, 56, 57, 58, 59, 60, 61, 62, 63, 64, 65, 66, 67, 68, 69, 70, 71, 72, 73, 74, 75, 76, 77, 78, 79, 80, 81, 82, 83, 84, 85, 86, 87, 88, 89, 90, 91, 92, 93, 94, 95, 96, 97, 98, 99, 100, 101, 102, 103, 104, 105, 106, 107, 108, 109, 110, 111, 112, 113, 114, 115, 116, 117, 118, 119, 120, 121, 122, 123, 124, 125, 126, 127, 128, 129, 130, 131, 132, 133, 134, 135, 136, 137, 138, 139, 140] (by decide +kernel) (by decide +kernel)) (goodIn_sub (fun _ h => List.mem_cons_of_mem _ (List.mem_append_right _ h)) (by decide +kernel))
set_option maxRecDepth 20000 in
theorem gL_removeSignal_X10_removeSignal : GoodIn wsL_removeSignal (wsV RL 20 RX10 yX10_removeSignal wsX10_removeSignal) := goodIn_app (goodIn_of _ (by decide +kernel)) ggL_removeSignal_X10_removeSignal
theorem dL_removeSignal_0 : decode cL_removeSignal 0 = .ok (.aload_n 2, 1) := by decide +kernel
theorem dL_removeSignal_1 : decode cL_removeSignal 1 = .ok (.iconst 0, 1) := by decide +kernel
theorem dL_removeSignal_2 : decode cL_removeSignal 2 = .ok (.aload_n 0, 1) := by decide +kernel
theorem dL_removeSignal_3 : decode cL_removeSignal 3 = .ok (.iload_n 1, 1) := by decide +kernel
theorem dL_removeSignal_4 : decode cL_removeSignal 4 = .ok (.invokevirtual 20, 3) := by decide +kernel
theorem dL_removeSignal_7 : decode cL_removeSignal 7 = .ok (.i2l, 1) := by decide +kernel
theorem dL_removeSignal_8 : decode cL_removeSignal 8 = .ok (.lastore, 1) := by decide +kernel
theorem dL_removeSignal_9 : decode cL_removeSignal 9 = .ok (.goto 6, 3) := by decide +kernel
theorem dL_removeSignal_12 : decode cL_removeSignal 12 = .ok (.astore_n 3, 1) := by decide +kernel
theorem dL_removeSignal_13 : decode cL_removeSignal 13 = .ok (.iconst 1, 1) := by decide +kernel
theorem dL_removeSignal_14 : decode cL_removeSignal 14 = .ok (.ireturn, 1) := by decide +kernel
theorem dL_removeSignal_15 : decode cL_removeSignal 15 = .ok (.iconst 0, 1) := by decide +kernel
theorem dL_removeSignal_16 : decode cL_removeSignal 16 = .ok (.ireturn, 1) := by decide +kernel
set_option maxRecDepth 20000 in
theorem ggL_setLevels_X10_setLevels : GoodIn wsL_setLevels wsX10_setLevels := goodIn_ca (goodIn_r _ [6, 7, 8, 9, 10, 5, 11, 12, 13, 14, 15, 16, 17, 18, 19, 20, 21, 22, 23, 24, 25, 26, 27, 28, 29, 30, 31, 32, 33, 34, 35, 36, 37, 38, 39, 40, 41, 42, 43, 44, 45, 46, 47, 48, 49, 50, 51, 52, 53, 54, 55, 56, 57, 58, 59, 60, 61, 62, 63, 64, 65, 66, 67, 68, 69, 70, 71, 72, 73, 74, 75, 76, 77, 78, 79, 80, 81, 82, 83, 84, 85, 86, 87, 88, 89, 90, 91, 92, 93, 94, 95, 96, 97, 98, 99, 100, 101, 102, 103, 104, 105, 106, 107, 108, 109, 110, 111, 112, 113, 114, 115, 116, 117, 118, 119, 120, 121, 122, 123, 124, 125, 126, 127, 128, 129] (by decide +kernel) (by decide +kernel)) (goodIn_sub (fun _ h => List.mem_cons_of_mem _ (List.mem_append_right _ h)) (by decide +kernel))
set_option maxRecDepth 20000 in
theorem gL_setLevels_X10_setLevels : GoodIn wsL_setLevels (wsV RL 26 RX10 yX10_setLevels wsX10_setLevels) := goodIn_app (goodIn_of _ (by decide +kernel)) ggL_setLevels_X10_setLevels
theorem dL_setLevels_0 : decode cL_setLevels 0 = .ok (.aload_n 3, 1) := by decide +kernel
theorem dL_setLevels_1 : decode cL_setLevels 1 = .ok (.iconst 0, 1) := by decide +kernel
theorem dL_setLevels_2 : decode cL_setLevels 2 = .ok (.aload_n 0, 1) := by decide +kernel
theorem dL_setLevels_3 : decode cL_setLevels 3 = .ok (.iload_n 1, 1) := by decide +kernel
theorem dL_setLevels_4 : decode cL_setLevels 4 = .ok (.iload_n 2, 1) := by decide +kernel
theorem dL_setLevels_5 : decode cL_setLevels 5 = .ok (.invokevirtual 26, 3) := by decide +kernel
theorem dL_setLevels_8 : decode cL_setLevels 8 = .ok (.i2l, 1) := by decide +kernel
theorem dL_setLevels_9 : decode cL_setLevels 9 = .ok (.lastore, 1) := by decide +kernel
theorem dL_setLevels_10 : decode cL_setLevels 10 = .ok (.goto 7, 3) := by decide +kernel
theorem dL_setLevels_13 : decode cL_setLevels 13 = .ok (.astore 4, 2) := by decide +kernel
theorem dL_setLevels_15 : decode cL_setLevels 15 = .ok (.iconst 1, 1) := by decide +kernel
theorem dL_setLevels_16 : decode cL_setLevels 16 = .ok (.ireturn, 1) := by decide +kernel
theorem dL_setLevels_17 : decode cL_setLevels 17 = .ok (.iconst 0, 1) := by decide +kernel
theorem dL_setLevels_18 : decode cL_setLevels 18 = .ok (.ireturn, 1) := by decide +kernel
set_option maxRecDepth 20000 in
theorem ggL_setMask_X10_setMask : GoodIn wsL_setMask wsX10_setMask := goodIn_ca (goodIn_ca (goodIn_r _ [7, 8, 9, 10, 11, 6, 12, 13, 14, 15, 16, 17, 18, 19, 20, 21, 22, 23, 24, 25, 26, 27, 28, 29, 30, 31, 32, 33, 34, 35, 36, 37, 38, 39, 40, 41, 42, 43, 44, 45, 46, 47, 48, 49, 50, 51, 52, 53, 54, 55, 56, 57, 58, 59, 60, 61, 62, 63, 64, 65, 66, 67, 68, 69, 70, 71, 72, 73, 74, 75, 76, 77, 78, 79, 80, 81, 82, 83, 84, 85, 86, 87, 88, 89, 90, 91, 92, 93, 94, 95, 96, 97, 98, 99, 100, 101, 102, 103, 104, 105, 106, 107, 108, 109, 110, 111, 112, 113, 114, 115, 116, 117, 118, 119, 120, 121, 122, 123, 124, 125, 126, 127, 128, 129, 130, 131, 132, 133, 134, 135, 136, 137, 138, 139, 140, 141, 142, 143, 144, 145, 146, 147, 148, 149, 150, 151, 152, 153, 154] (by decide +kernel) (by decide +kernel)) (goodIn_sub (fun _ h => List.mem_cons_of_mem _ (List.mem_append_left _ (List.mem_append_right _ h))) (by decide +kernel))) (goodIn_sub (fun _ h => List.mem_cons_of_mem _ (List.mem_append_right _ h)) (by decide +kernel))
set_option maxRecDepth 20000 in
theorem gL_setMask_X10_setMask : GoodIn wsL_setMask (wsV RL 30 RX10 yX10_setMask wsX10_setMask) := goodIn_app (goodIn_of _ (by decide +kernel)) ggL_setMask_X10_setMask
theorem dL_setMask_0 : decode cL_setMask 0 = .ok (.aload 4, 2) := by decide +kernel
theorem dL_setMask_2 : decode cL_setMask 2 = .ok (.iconst 0, 1) := by decide +kernel
theorem dL_setMask_3 : decode cL_setMask 3 = .ok (.aload_n 0, 1) := by decide +kernel
theorem dL_setMask_4 : decode cL_setMask 4 = .ok (.iload_n 1, 1) := by decide +kernel
theorem dL_setMask_5 : decode cL_setMask 5 = .ok (.iload_n 2, 1) := by decide +kernel
theorem dL_setMask_6 : decode cL_setMask 6 = .ok (.iload_n 3, 1) := by decide +kernel
theorem dL_setMask_7 : decode cL_setMask 7 = .ok (.invokevirtual 30, 3) := by decide +kernel
theorem dL_setMask_10 : decode cL_setMask 10 = .ok (.i2l, 1) := by decide +kernel
theorem dL_setMask_11 : decode cL_setMask 11 = .ok (.lastore, 1) := by decide +kernel
theorem dL_setMask_12 : decode cL_setMask 12 = .ok (.goto 11, 3) := by decide +kernel
theorem dL_setMask_15 : decode cL_setMask 15 = .ok (.astore 5, 2) := by decide +kernel
theorem dL_setMask_17 : decode cL_setMask 17 = .ok (.iconst 1, 1) := by decide +kernel
theorem dL_setMask_18 : decode cL_setMask 18 = .ok (.ireturn, 1) := by decide +kernel
theorem dL_setMask_19 : decode cL_setMask 19 = .ok (.astore 5, 2) := by decide +kernel
theorem dL_setMask_21 : decode cL_setMask 21 = .ok (.iconst 2, 1) := by decide +kernel
theorem dL_setMask_22 : decode cL_setMask 22 = .ok (.ireturn, 1) := by decide +kernel
theorem dL_setMask_23 : decode cL_setMask 23 = .ok (.iconst 0, 1) := by decide +kernel
theorem dL_setMask_24 : decode cL_setMask 24 = .ok (.ireturn, 1) := by decide +kernel
set_option maxRecDepth 20000 in
theorem ggL_setHops_X10_setHops : GoodIn wsL_setHops wsX10_setHops := goodIn_ca (goodIn_r _ [6, 7, 8, 9, 10, 5, 11, 12, 13, 14, 15, 16, 17, 18, 19, 20, 21, 22, 23, 24, 25, 26, 27, 28, 29, 30, 31, 32, 33, 34, 35, 36, 37, 38, 39, 40, 41, 42, 43, 44, 45, 46, 47, 48, 49, 50, 51, 52, 53, 54, 55, 56, 57, 58, 59, 60, 61, 62, 63, 64, 65, 66, 67, 68, 69, 70, 71, 72, 73, 74, 75, 76, 77, 78, 79, 80, 81, 82, 83, 84, 85, 86, 87, 88, 89, 90, 91, 92, 93, 94, 95, 96, 97, 98, 99, 100, 101, 102, 103, 104, 105, 106, 107, 108, 109, 110, 111, 112, 113, 114, 115, 116, 117, 118, 119, 120, 121, 122, 123, 124, 125, 126, 127, 128, 129] (by decide +kernel) (by decide +kernel)) (goodIn_sub (fun _ h => List.mem_cons_of_mem _ (List.mem_append_right _ h)) (by decide +kernel))
set_option maxRecDepth 20000 in
theorem gL_setHops_X10_setHops : GoodIn wsL_setHops (wsV RL 34 RX10 yX10_setHops wsX10_setHops) := goodIn_app (goodIn_of _ (by decide +kernel)) ggL_setHops_X10_setHops
theorem dL_setHops_0 : decode cL_setHops 0 = .ok (.aload_n 3, 1) := by decide +kernel
theorem dL_setHops_1 : decode cL_setHops 1 = .ok (.iconst 0, 1) := by decide +kernel
theorem dL_setHops_2 : decode cL_setHops 2 = .ok (.aload_n 0, 1) := by decide +kernel
theorem dL_setHops_3 : decode cL_setHops 3 = .ok (.iload_n 1, 1) := by decide +kernel
theorem dL_setHops_4 : decode cL_setHops 4 = .ok (.iload_n 2, 1) := by decide +kernel
theorem dL_setHops_5 : decode cL_setHops 5 = .ok (.invokevirtual 34, 3) := by decide +kernel
theorem dL_setHops_8 : decode cL_setHops 8 = .ok (.i2l, 1) := by decide +kernel
theorem dL_setHops_9 : decode cL_setHops 9 = .ok (.lastore, 1) := by decide +kernel
theorem dL_setHops_10 : decode cL_setHops 10 = .ok (.goto 7, 3) := by decide +kernel
theorem dL_setHops_13 : decode cL_setHops 13 = .ok (.astore 4, 2) := by decide +kernel
theorem dL_setHops_15 : decode cL_setHops 15 = .ok (.iconst 1, 1) := by decide +kernel
theorem dL_setHops_16 : decode cL_setHops 16 = .ok (.ireturn, 1) := by decide +kernel
theorem dL_setHops_17 : decode cL_setHops 17 = .ok (.iconst 0, 1) := by decide +kernel
theorem dL_setHops_18 : decode cL_setHops 18 = .ok (.ireturn, 1) := by decide +kernel
set_option maxRecDepth 20000 in
theorem ggL_append_X10_append : GoodIn wsL_append wsX10_append := goodIn_ca (goodIn_ca (goodIn_r _ [7, 8, 9, 10, 11, 12, 6, 13, 14, 15, 16, 17, 18, 19, 20, 21, 22, 23, 24, 25, 26, 27, 28, 29, 30, 31, 32, 33] (by decide +kernel) (by decide +kernel)) (goodIn_sub (fun _ h => List.mem_cons_of_mem _ (List.mem_append_left _ (List.mem_append_right _ h))) (by decide +kernel))) (goodIn_sub (fun _ h => List.mem_cons_of_mem _ (List.mem_append_right _ h)) (by decide +kernel))
set_option maxRecDepth 20000 in
theorem gL_append_X10_append : GoodIn wsL_append (wsV RL 37 RX10 yX10_append wsX10_append) := goodIn_app (goodIn_of _ (by decide +kernel)) ggL_append_X10_append
theorem dL_append_0 : decode cL_append 0 = .ok (.aload_n 2, 1) := by decide +kernel
theorem dL_append_1 : decode cL_append 1 = .ok (.iconst 0, 1) := by decide +kernel
theorem dL_append_2 : decode cL_append 2 = .ok (.aload_n 0, 1) := by decide +kernel
theorem dL_append_3 : decode cL_append 3 = .ok (.iload_n 1, 1) := by decide +kernel
theorem dL_append_4 : decode cL_append 4 = .ok (.invokevirtual 37, 3) := by decide +kernel
theorem dL_append_7 : decode cL_append 7 = .ok (.i2l, 1) := by decide +kernel
theorem dL_append_8 : decode cL_append 8 = .ok (.lastore, 1) := by decide +kernel
theorem dL_append_9 : decode cL_append 9 = .ok (.goto 9, 3) := by decide +kernel
theorem dL_append_12 : decode cL_append 12 = .ok (.astore_n 3, 1) := by decide +kernel
theorem dL_append_13 : decode cL_append 13 = .ok (.iconst 1, 1) := by decide +kernel
theorem dL_append_14 : decode cL_append 14 = .ok (.ireturn, 1) := by decide +kernel
theorem dL_append_15 : decode cL_append 15 = .ok (.astore_n 3, 1) := by decide +kernel
theorem dL_append_16 : decode cL_append 16 = .ok (.iconst 2, 1) := by decide +kernel
theorem dL_append_17 : decode cL_append 17 = .ok (.ireturn, 1) := by decide +kernel
theorem dL_append_18 : decode cL_append 18 = .ok (.iconst 0, 1) := by decide +kernel
theorem dL_append_19 : decode cL_append 19 = .ok (.ireturn, 1) := by decide +kernel
set_option maxRecDepth 20000 in
theorem ggL_step_X10_step : GoodIn wsL_step wsX10_step := goodIn_ca (goodIn_ca (goodIn_r _ [7, 8, 9, 10, 6, 11, 12, 13, 14, 15, 16, 17, 18, 19, 20, 21, 22, 23, 24, 25, 26, 27, 28, 29, 30, 31, 32, 33, 34, 35, 36, 37, 38, 39, 40, 41, 42, 43, 44, 45, 46, 47, 48, 49, 50, 51, 52] (by decide +kernel) (by decide +kernel)) (goodIn_sub (fun _ h => List.mem_cons_of_mem _ (List.mem_append_left _ (List.mem_append_right _ h))) (by decide +kernel))) (goodIn_sub (fun _ h => List.mem_cons_of_mem _ (List.mem_append_right _ h)) (by decide +kernel))
set_option maxRecDepth 20000 in
theorem gL_step_X10_step : GoodIn wsL_step (wsV RL 40 RX10 yX10_step wsX10_step) := goodIn_app (goodIn_of _ (by decide +kernel)) ggL_step_X10_step
theorem dL_step_0 : decode cL_step 0 = .ok (.aload_n 3, 1) := by decide +kernel
theorem dL_step_1 : decode cL_step 1 = .ok (.iconst 0, 1) := by decide +kernel
theorem dL_step_2 : decode cL_step 2 = .ok (.aload_n 0, 1) := by decide +kernel
theorem dL_step_3 : decode cL_step 3 = .ok (.iload_n 1, 1) := by decide +kernel
theorem dL_step_4 : decode cL_step 4 = .ok (.iload_n 2, 1) := by decide +kernel
theorem dL_step_5 : decode cL_step 5 = .ok (.invokevirtual 40, 3) := by decide +kernel
theorem dL_step_8 : decode cL_step 8 = .ok (.i2l, 1) := by decide +kernel
theorem dL_step_9 : decode cL_step 9 = .ok (.lastore, 1) := by decide +kernel
theorem dL_step_10 : decode cL_step 10 = .ok (.goto 11, 3) := by decide +kernel
theorem dL_step_13 : decode cL_step 13 = .ok (.astore 4, 2) := by decide +kernel
theorem dL_step_15 : decode cL_step 15 = .ok (.iconst 1, 1) := by decide +kernel
theorem dL_step_16 : decode cL_step 16 = .ok (.ireturn, 1) := by decide +kernel
theorem dL_step_17 : decode cL_step 17 = .ok (.astore 4, 2) := by decide +kernel
theorem dL_step_19 : decode cL_step 19 = .ok (.iconst 2, 1) := by decide +kernel
theorem dL_step_20 : decode cL_step 20 = .ok (.ireturn, 1) := by decide +kernel
theorem dL_step_21 : decode cL_step 21 = .ok (.iconst 0, 1) := by decide +kernel
theorem dL_step_22 : decode cL_step 22 = .ok (.ireturn, 1) := by decide +kernel
set_option maxRecDepth 20000 in
theorem ggL_planByte_X10_planByte : GoodIn wsL_planByte wsX10_planByte := goodIn_ca (goodIn_r _ [6, 7, 8, 9, 10, 11, 12, 13, 14, 15, 16, 17, 18, 19, 20, 21, 22, 23, 24, 25, 26, 27, 28, 29, 30, 31, 32, 33, 34, 35, 36, 37, 5, 38, 39, 40, 41, 42, 43, 44, 45, 46, 47, 48, 49, 50, 51, 52, 53, 54, 55, 56, 57, 58, 59, 60, 61, 62, 63, 64, 65, 66, 67, 68] (by decide +kernel) (by decide +kernel)) (goodIn_sub (fun _ h => List.mem_cons_of_mem _ (List.mem_append_right _ h)) (by decide +kernel))
set_option maxRecDepth 20000 in
theorem gL_planByte_X10_planByte : GoodIn wsL_planByte (wsV RL 43 RX10 yX10_planByte wsX10_planByte) := goodIn_app (goodIn_of _ (by decide +kernel)) ggL_planByte_X10_planByte
theorem dL_planByte_0 : decode cL_planByte 0 = .ok (.aload_n 2, 1) := by decide +kernel
theorem dL_planByte_1 : decode cL_planByte 1 = .ok (.iconst 0, 1) := by decide +kernel
theorem dL_planByte_2 : decode cL_planByte 2 = .ok (.aload_n 0, 1) := by decide +kernel
theorem dL_planByte_3 : decode cL_planByte 3 = .ok (.iload_n 1, 1) := by decide +kernel
theorem dL_planByte_4 : decode cL_planByte 4 = .ok (.invokevirtual 43, 3) := by decide +kernel
theorem dL_planByte_7 : decode cL_planByte 7 = .ok (.i2l, 1) := by decide +kernel
theorem dL_planByte_8 : decode cL_planByte 8 = .ok (.lastore, 1) := by decide +kernel
theorem dL_planByte_9 : decode cL_planByte 9 = .ok (.goto 6, 3) := by decide +kernel
theorem dL_planByte_12 : decode cL_planByte 12 = .ok (.astore_n 3, 1) := by decide +kernel
theorem dL_planByte_13 : decode cL_planByte 13 = .ok (.iconst 1, 1) := by decide +kernel
theorem dL_planByte_14 : decode cL_planByte 14 = .ok (.ireturn, 1) := by decide +kernel
theorem dL_planByte_15 : decode cL_planByte 15 = .ok (.iconst 0, 1) := by decide +kernel
theorem dL_planByte_16 : decode cL_planByte 16 = .ok (.ireturn, 1) := by decide +kernel
set_option maxRecDepth 20000 in
theorem ggL_revisit_X10_revisit : GoodIn wsL_revisit wsX10_revisit := goodIn_ca (goodIn_r _ [6, 7, 8, 9, 5, 10, 11, 12, 13, 14, 15, 16, 17, 18, 19, 20, 21, 22, 23, 24, 25, 26, 27, 28, 29, 30, 31, 32, 33, 34, 35, 36, 37, 38, 39, 40, 41, 42, 43, 44, 45, 46, 47, 48, 49, 50, 51, 52, 53, 54, 55, 56, 57, 58, 59, 60, 61] (by decide +kernel) (by decide +kernel)) (goodIn_sub (fun _ h => List.mem_cons_of_mem _ (List.mem_append_right _ h)) (by decide +kernel))
set_option maxRecDepth 20000 in
theorem gL_revisit_X10_revisit : GoodIn wsL_revisit (wsV RL 46 RX10 yX10_revisit wsX10_revisit) := goodIn_app (goodIn_of _ (by decide +kernel)) ggL_revisit_X10_revisit
theorem dL_revisit_0 : decode cL_revisit 0 = .ok (.aload_n 2, 1) := by decide +kernel
theorem dL_revisit_1 : decode cL_revisit 1 = .ok (.iconst 0, 1) := by decide +kernel
theorem dL_revisit_2 : decode cL_revisit 2 = .ok (.aload_n 0, 1) := by decide +kernel
theorem dL_revisit_3 : decode cL_revisit 3 = .ok (.iload_n 1, 1) := by decide +kernel
theorem dL_revisit_4 : decode cL_revisit 4 = .ok (.invokevirtual 46, 3) := by decide +kernel
theorem dL_revisit_7 : decode cL_revisit 7 = .ok (.i2l, 1) := by decide +kernel
theorem dL_revisit_8 : decode cL_revisit 8 = .ok (.lastore, 1) := by decide +kernel
theorem dL_revisit_9 : decode cL_revisit 9 = .ok (.goto 6, 3) := by decide +kernel
theorem dL_revisit_12 : decode cL_revisit 12 = .ok (.astore_n 3, 1) := by decide +kernel
theorem dL_revisit_13 : decode cL_revisit 13 = .ok (.iconst 1, 1) := by decide +kernel
theorem dL_revisit_14 : decode cL_revisit 14 = .ok (.ireturn, 1) := by decide +kernel
theorem dL_revisit_15 : decode cL_revisit 15 = .ok (.iconst 0, 1) := by decide +kernel
theorem dL_revisit_16 : decode cL_revisit 16 = .ok (.ireturn, 1) := by decide +kernel
set_option maxRecDepth 20000 in
theorem ggL_run_X10_run : GoodIn wsL_run wsX10_run := goodIn_ca (goodIn_r _ [6, 7, 8, 9, 10, 11, 5, 12, 13, 14, 15, 16, 17, 18, 19, 20, 21, 22, 23, 24, 25, 26, 27, 28, 29, 30, 31, 32, 33, 34, 35, 36, 37, 38, 39, 40, 41, 42, 43, 44, 45, 46, 47, 48, 49, 50, 51, 52, 53, 54, 55, 56, 57, 58, 59, 60, 61, 62, 63, 64, 65, 66, 67, 68, 69, 70, 71, 72, 73, 74, 75, 76, 77, 78, 79, 80, 81, 82, 83, 84, 85, 86, 87, 88, 89, 90, 91, 92, 93, 94, 95, 96, 97, 98, 99, 100, 101, 102, 103, 104, 105, 106, 107, 108, 109, 110, 111, 112, 113, 114, 115, 116, 117, 118, 119, 120, 121, 122, 123, 124, 125, 126, 127, 128, 129, 130, 131, 132, 133, 134, 135, 136, 137, 138, 139, 140, 141, 142, 143, 144, 145, 146, 147, 148, 149, 150, 151, 152, 153, 154, 155, 156, 157, 158, 159, 160, 161, 162, 163, 164, 165, 166, 167, 168, 169, 170, 171, 172, 173, 174, 175, 176, 177, 178, 179, 180, 181, 182, 183, 184, 185, 186, 187, 188, 189, 190, 191, 192, 193, 194, 195, 196, 197, 198, 199, 200, 201, 202, 203, 204, 205, 206, 207, 208, 209, 210, 211, 212, 213, 214] (by decide +kernel) (by decide +kernel)) (goodIn_sub (fun _ h => List.mem_cons_of_mem _ (List.mem_append_right _ h)) (by decide +kernel))
set_option maxRecDepth 20000 in
theorem gL_run_X10_run : GoodIn wsL_run (wsV RL 49 RX10 yX10_run wsX10_run) := goodIn_app (goodIn_of _ (by decide +kernel)) ggL_run_X10_run
theorem dL_run_0 : decode cL_run 0 = .ok (.aload_n 2, 1) := by decide +kernel
theorem dL_run_1 : decode cL_run 1 = .ok (.iconst 0, 1) := by decide +kernel
theorem dL_run_2 : decode cL_run 2 = .ok (.aload_n 0, 1) := by decide +kernel
theorem dL_run_3 : decode cL_run 3 = .ok (.iload_n 1, 1) := by decide +kernel
theorem dL_run_4 : decode cL_run 4 = .ok (.invokevirtual 49, 3) := by decide +kernel
theorem dL_run_7 : decode cL_run 7 = .ok (.i2l, 1) := by decide +kernel
theorem dL_run_8 : decode cL_run 8 = .ok (.lastore, 1) := by decide +kernel
theorem dL_run_9 : decode cL_run 9 = .ok (.goto 6, 3) := by decide +kernel
theorem dL_run_12 : decode cL_run 12 = .ok (.astore_n 3, 1) := by decide +kernel
theorem dL_run_13 : decode cL_run 13 = .ok (.iconst 1, 1) := by decide +kernel
theorem dL_run_14 : decode cL_run 14 = .ok (.ireturn, 1) := by decide +kernel
theorem dL_run_15 : decode cL_run 15 = .ok (.iconst 0, 1) := by decide +kernel
theorem dL_run_16 : decode cL_run 16 = .ok (.ireturn, 1) := by decide +kernel
set_option maxRecDepth 20000 in
theorem ggL_level_X10_level : GoodIn wsL_level wsX10_level := goodIn_ca (goodIn_r _ [6, 7, 8, 9, 10, 5, 11, 12, 13, 14, 15, 16, 17, 18, 19, 20, 21, 22, 23, 24, 25, 26, 27, 28, 29, 30, 31, 32, 33, 34, 35, 36, 37, 38, 39, 40, 41, 42, 43, 44, 45, 46, 47, 48, 49, 50, 51, 52, 53, 54, 55, 56, 57, 58, 59, 60, 61, 62, 63, 64, 65, 66, 67, 68, 69, 70, 71, 72] (by decide +kernel) (by decide +kernel)) (goodIn_sub (fun _ h => List.mem_cons_of_mem _ (List.mem_append_right _ h)) (by decide +kernel))
set_option maxRecDepth 20000 in
theorem gL_level_X10_level : GoodIn wsL_level (wsV RL 52 RX10 yX10_level wsX10_level) := goodIn_app (goodIn_of _ (by decide +kernel)) ggL_level_X10_level
theorem dL_level_0 : decode cL_level 0 = .ok (.aload_n 2, 1) := by decide +kernel
theorem dL_level_1 : decode cL_level 1 = .ok (.iconst 0, 1) := by decide +kernel
theorem dL_level_2 : decode cL_level 2 = .ok (.aload_n 0, 1) := by decide +kernel
theorem dL_level_3 : decode cL_level 3 = .ok (.iload_n 1, 1) := by decide +kernel
theorem dL_level_4 : decode cL_level 4 = .ok (.invokevirtual 52, 3) := by decide +kernel
theorem dL_level_7 : decode cL_level 7 = .ok (.i2l, 1) := by decide +kernel
theorem dL_level_8 : decode cL_level 8 = .ok (.lastore, 1) := by decide +kernel
theorem dL_level_9 : decode cL_level 9 = .ok (.goto 6, 3) := by decide +kernel
theorem dL_level_12 : decode cL_level 12 = .ok (.astore_n 3, 1) := by decide +kernel
theorem dL_level_13 : decode cL_level 13 = .ok (.iconst 1, 1) := by decide +kernel
theorem dL_level_14 : decode cL_level 14 = .ok (.ireturn, 1) := by decide +kernel
theorem dL_level_15 : decode cL_level 15 = .ok (.iconst 0, 1) := by decide +kernel
theorem dL_level_16 : decode cL_level 16 = .ok (.ireturn, 1) := by decide +kernel
set_option maxRecDepth 20000 in
theorem ggL_detector_X10_detector : GoodIn wsL_detector wsX10_detector := goodIn_ca (goodIn_ca (goodIn_r _ [7, 8, 9, 10, 6, 11, 12, 13, 14, 15, 16, 17, 18, 19, 20, 21, 22, 23, 24, 25, 26, 27, 28, 29, 30, 31, 32, 33, 34, 35, 36, 37, 38, 39, 40, 41, 42, 43, 44, 45, 46, 47, 48, 49, 50, 51] (by decide +kernel) (by decide +kernel)) (goodIn_sub (fun _ h => List.mem_cons_of_mem _ (List.mem_append_left _ (List.mem_append_right _ h))) (by decide +kernel))) (goodIn_sub (fun _ h => List.mem_cons_of_mem _ (List.mem_append_right _ h)) (by decide +kernel))
set_option maxRecDepth 20000 in
theorem gL_detector_X10_detector : GoodIn wsL_detector (wsV RL 55 RX10 yX10_detector wsX10_detector) := goodIn_app (goodIn_of _ (by decide +kernel)) ggL_detector_X10_detector
theorem dL_detector_0 : decode cL_detector 0 = .ok (.aload_n 3, 1) := by decide +kernel
theorem dL_detector_1 : decode cL_detector 1 = .ok (.iconst 0, 1) := by decide +kernel
theorem dL_detector_2 : decode cL_detector 2 = .ok (.aload_n 0, 1) := by decide +kernel
theorem dL_detector_3 : decode cL_detector 3 = .ok (.iload_n 1, 1) := by decide +kernel
theorem dL_detector_4 : decode cL_detector 4 = .ok (.iload_n 2, 1) := by decide +kernel
theorem dL_detector_5 : decode cL_detector 5 = .ok (.invokevirtual 55, 3) := by decide +kernel
theorem dL_detector_8 : decode cL_detector 8 = .ok (.i2l, 1) := by decide +kernel
theorem dL_detector_9 : decode cL_detector 9 = .ok (.lastore, 1) := by decide +kernel
theorem dL_detector_10 : decode cL_detector 10 = .ok (.goto 11, 3) := by decide +kernel
theorem dL_detector_13 : decode cL_detector 13 = .ok (.astore 4, 2) := by decide +kernel
theorem dL_detector_15 : decode cL_detector 15 = .ok (.iconst 1, 1) := by decide +kernel
theorem dL_detector_16 : decode cL_detector 16 = .ok (.ireturn, 1) := by decide +kernel
theorem dL_detector_17 : decode cL_detector 17 = .ok (.astore 4, 2) := by decide +kernel
theorem dL_detector_19 : decode cL_detector 19 = .ok (.iconst 2, 1) := by decide +kernel
theorem dL_detector_20 : decode cL_detector 20 = .ok (.ireturn, 1) := by decide +kernel
theorem dL_detector_21 : decode cL_detector 21 = .ok (.iconst 0, 1) := by decide +kernel
theorem dL_detector_22 : decode cL_detector 22 = .ok (.ireturn, 1) := by decide +kernel
set_option maxRecDepth 20000 in
theorem ggL_average_X10_average : GoodIn wsL_average wsX10_average := goodIn_ca (goodIn_r _ [6, 7, 8, 9, 5, 10, 11, 12, 13, 14, 15, 16, 17, 18, 19, 20, 21, 22, 23, 24, 25, 26, 27, 28, 29, 30, 31, 32, 33, 34, 35, 36, 37, 38, 39, 40, 41, 42, 43, 44, 45, 46, 47, 48, 49, 50, 51, 52, 53, 54, 55, 56] (by decide +kernel) (by decide +kernel)) (goodIn_sub (fun _ h => List.mem_cons_of_mem _ (List.mem_append_right _ h)) (by decide +kernel))
set_option maxRecDepth 20000 in
theorem gL_average_X10_average : GoodIn wsL_average (wsV RL 58 RX10 yX10_average wsX10_average) := goodIn_app (goodIn_of _ (by decide +kernel)) ggL_average_X10_average
theorem dL_average_0 : decode cL_average 0 = .ok (.aload_n 2, 1) := by decide +kernel
theorem dL_average_1 : decode cL_average 1 = .ok (.iconst 0, 1) := by decide +kernel
theorem dL_average_2 : decode cL_average 2 = .ok (.aload_n 0, 1) := by decide +kernel
theorem dL_average_3 : decode cL_average 3 = .ok (.iload_n 1, 1) := by decide +kernel
theorem dL_average_4 : decode cL_average 4 = .ok (.invokevirtual 58, 3) := by decide +kernel
theorem dL_average_7 : decode cL_average 7 = .ok (.i2l, 1) := by decide +kernel
theorem dL_average_8 : decode cL_average 8 = .ok (.lastore, 1) := by decide +kernel
theorem dL_average_9 : decode cL_average 9 = .ok (.goto 6, 3) := by decide +kernel
theorem dL_average_12 : decode cL_average 12 = .ok (.astore_n 3, 1) := by decide +kernel
theorem dL_average_13 : decode cL_average 13 = .ok (.iconst 1, 1) := by decide +kernel
theorem dL_average_14 : decode cL_average 14 = .ok (.ireturn, 1) := by decide +kernel
theorem dL_average_15 : decode cL_average 15 = .ok (.iconst 0, 1) := by decide +kernel
theorem dL_average_16 : decode cL_average 16 = .ok (.ireturn, 1) := by decide +kernel
set_option maxRecDepth 20000 in
theorem ggL_occupancy_X10_occupancy : GoodIn wsL_occupancy wsX10_occupancy := goodIn_ca (goodIn_r _ [6, 7, 8, 9, 5, 10, 11, 12, 13, 14, 15, 16, 17, 18, 19, 20, 21, 22, 23, 24, 25, 26, 27, 28, 29, 30, 31, 32, 33, 34, 35, 36, 37, 38, 39, 40, 41, 42, 43, 44, 45] (by decide +kernel) (by decide +kernel)) (goodIn_sub (fun _ h => List.mem_cons_of_mem _ (List.mem_append_right _ h)) (by decide +kernel))
set_option maxRecDepth 20000 in
theorem gL_occupancy_X10_occupancy : GoodIn wsL_occupancy (wsV RL 61 RX10 yX10_occupancy wsX10_occupancy) := goodIn_app (goodIn_of _ (by decide +kernel)) ggL_occupancy_X10_occupancy
theorem dL_occupancy_0 : decode cL_occupancy 0 = .ok (.aload_n 2, 1) := by decide +kernel
theorem dL_occupancy_1 : decode cL_occupancy 1 = .ok (.iconst 0, 1) := by decide +kernel
theorem dL_occupancy_2 : decode cL_occupancy 2 = .ok (.aload_n 0, 1) := by decide +kernel
theorem dL_occupancy_3 : decode cL_occupancy 3 = .ok (.iload_n 1, 1) := by decide +kernel
theorem dL_occupancy_4 : decode cL_occupancy 4 = .ok (.invokevirtual 61, 3) := by decide +kernel
theorem dL_occupancy_7 : decode cL_occupancy 7 = .ok (.dastore, 1) := by decide +kernel
theorem dL_occupancy_8 : decode cL_occupancy 8 = .ok (.goto 6, 3) := by decide +kernel
theorem dL_occupancy_11 : decode cL_occupancy 11 = .ok (.astore_n 3, 1) := by decide +kernel
theorem dL_occupancy_12 : decode cL_occupancy 12 = .ok (.iconst 1, 1) := by decide +kernel
theorem dL_occupancy_13 : decode cL_occupancy 13 = .ok (.ireturn, 1) := by decide +kernel
theorem dL_occupancy_14 : decode cL_occupancy 14 = .ok (.iconst 0, 1) := by decide +kernel
theorem dL_occupancy_15 : decode cL_occupancy 15 = .ok (.ireturn, 1) := by decide +kernel
set_option maxRecDepth 20000 in
theorem ggL_event_X10_event : GoodIn wsL_event wsX10_event := goodIn_ca (goodIn_ca (goodIn_r _ [7, 8, 9, 10, 6, 11, 12, 13, 14, 15, 16, 17, 18, 19, 20, 21, 22, 23, 24, 25, 26, 27, 28, 29, 30, 31, 32, 33, 34, 35, 36, 37, 38, 39, 40, 41, 42, 43, 44, 45, 46, 47, 48, 49, 50, 51, 52, 53, 54, 55, 56, 57, 58, 59, 60, 61, 62, 63, 64, 65, 66, 67, 68, 69, 70, 71, 72, 73, 74, 75, 76, 77, 78, 79, 80, 81, 82, 83, 84, 85, 86, 87, 88, 89, 90, 91, 92, 93, 94, 95, 96, 97, 98, 99, 100, 101, 102, 103, 104, 105, 106, 107, 108] (by decide +kernel) (by decide +kernel)) (goodIn_sub (fun _ h => List.mem_cons_of_mem _ (List.mem_append_left _ (List.mem_append_right _ h))) (by decide +kernel))) (goodIn_sub (fun _ h => List.mem_cons_of_mem _ (List.mem_append_right _ h)) (by decide +kernel))
set_option maxRecDepth 20000 in
theorem gL_event_X10_event : GoodIn wsL_event (wsV RL 65 RX10 yX10_event wsX10_event) := goodIn_app (goodIn_of _ (by decide +kernel)) ggL_event_X10_event
theorem dL_event_0 : decode cL_event 0 = .ok (.aload_n 3, 1) := by decide +kernel
theorem dL_event_1 : decode cL_event 1 = .ok (.iconst 0, 1) := by decide +kernel
theorem dL_event_2 : decode cL_event 2 = .ok (.aload_n 0, 1) := by decide +kernel
theorem dL_event_3 : decode cL_event 3 = .ok (.iload_n 1, 1) := by decide +kernel
theorem dL_event_4 : decode cL_event 4 = .ok (.iload_n 2, 1) := by decide +kernel
theorem dL_event_5 : decode cL_event 5 = .ok (.invokevirtual 65, 3) := by decide +kernel
theorem dL_event_8 : decode cL_event 8 = .ok (.i2l, 1) := by decide +kernel
theorem dL_event_9 : decode cL_event 9 = .ok (.lastore, 1) := by decide +kernel
theorem dL_event_10 : decode cL_event 10 = .ok (.goto 11, 3) := by decide +kernel
theorem dL_event_13 : decode cL_event 13 = .ok (.astore 4, 2) := by decide +kernel
theorem dL_event_15 : decode cL_event 15 = .ok (.iconst 1, 1) := by decide +kernel
theorem dL_event_16 : decode cL_event 16 = .ok (.ireturn, 1) := by decide +kernel
theorem dL_event_17 : decode cL_event 17 = .ok (.astore 4, 2) := by decide +kernel
theorem dL_event_19 : decode cL_event 19 = .ok (.iconst 2, 1) := by decide +kernel
theorem dL_event_20 : decode cL_event 20 = .ok (.ireturn, 1) := by decide +kernel
theorem dL_event_21 : decode cL_event 21 = .ok (.iconst 0, 1) := by decide +kernel
theorem dL_event_22 : decode cL_event 22 = .ok (.ireturn, 1) := by decide +kernel
set_option maxRecDepth 20000 in
theorem ggL_chainLength_X10_chainLength : GoodIn wsL_chainLength wsX10_chainLength := goodIn_ca (goodIn_r _ [6, 7, 8, 9, 10, 5, 11, 12, 13, 14, 15, 16, 17, 18, 19, 20, 21, 22, 23, 24, 25, 26, 27, 28, 29, 30, 31, 32, 33, 34, 35, 36, 37, 38, 39, 40, 41, 42, 43, 44, 45, 46, 47, 48, 49, 50, 51, 52, 53, 54, 55, 56, 57, 58, 59, 60, 61, 62, 63, 64, 65, 66, 67, 68, 69, 70, 71, 72, 73, 74, 75, 76, 77, 78, 79, 80, 81, 82, 83, 84, 85, 86, 87, 88, 89, 90, 91, 92, 93, 94, 95, 96, 97] (by decide +kernel) (by decide +kernel)) (goodIn_sub (fun _ h => List.mem_cons_of_mem _ (List.mem_append_right _ h)) (by decide +kernel))
set_option maxRecDepth 20000 in
theorem gL_chainLength_X10_chainLength : GoodIn wsL_chainLength (wsV RL 68 RX10 yX10_chainLength wsX10_chainLength) := goodIn_app (goodIn_of _ (by decide +kernel)) ggL_chainLength_X10_chainLength
theorem dL_chainLength_0 : decode cL_chainLength 0 = .ok (.aload_n 2, 1) := by decide +kernel
theorem dL_chainLength_1 : decode cL_chainLength 1 = .ok (.iconst 0, 1) := by decide +kernel
theorem dL_chainLength_2 : decode cL_chainLength 2 = .ok (.aload_n 0, 1) := by decide +kernel
theorem dL_chainLength_3 : decode cL_chainLength 3 = .ok (.iload_n 1, 1) := by decide +kernel
theorem dL_chainLength_4 : decode cL_chainLength 4 = .ok (.invokevirtual 68, 3) := by decide +kernel
theorem dL_chainLength_7 : decode cL_chainLength 7 = .ok (.i2l, 1) := by decide +kernel
theorem dL_chainLength_8 : decode cL_chainLength 8 = .ok (.lastore, 1) := by decide +kernel
theorem dL_chainLength_9 : decode cL_chainLength 9 = .ok (.goto 6, 3) := by decide +kernel
theorem dL_chainLength_12 : decode cL_chainLength 12 = .ok (.astore_n 3, 1) := by decide +kernel
theorem dL_chainLength_13 : decode cL_chainLength 13 = .ok (.iconst 1, 1) := by decide +kernel
theorem dL_chainLength_14 : decode cL_chainLength 14 = .ok (.ireturn, 1) := by decide +kernel
theorem dL_chainLength_15 : decode cL_chainLength 15 = .ok (.iconst 0, 1) := by decide +kernel
theorem dL_chainLength_16 : decode cL_chainLength 16 = .ok (.ireturn, 1) := by decide +kernel
set_option maxRecDepth 20000 in
theorem ggL_hopInterval_X10_hopInterval : GoodIn wsL_hopInterval wsX10_hopInterval := goodIn_ca (goodIn_r _ [6, 7, 8, 9, 10, 5, 11, 12, 13, 14, 15, 16, 17, 18, 19, 20, 21, 22, 23, 24, 25, 26, 27, 28, 29, 30, 31, 32, 33, 34, 35, 36, 37, 38, 39, 40, 41, 42, 43, 44, 45, 46, 47, 48, 49, 50, 51, 52, 53, 54, 55, 56, 57, 58, 59, 60, 61, 62, 63, 64, 65, 66, 67, 68, 69, 70, 71, 72, 73, 74, 75, 76, 77, 78, 79, 80, 81, 82, 83, 84, 85, 86, 87, 88, 89, 90, 91, 92, 93, 94, 95, 96, 97, 98, 99, 100, 101, 102] (by decide +kernel) (by decide +kernel)) (goodIn_sub (fun _ h => List.mem_cons_of_mem _ (List.mem_append_right _ h)) (by decide +kernel))
set_option maxRecDepth 20000 in
theorem gL_hopInterval_X10_hopInterval : GoodIn wsL_hopInterval (wsV RL 71 RX10 yX10_hopInterval wsX10_hopInterval) := goodIn_app (goodIn_of _ (by decide +kernel)) ggL_hopInterval_X10_hopInterval
theorem dL_hopInterval_0 : decode cL_hopInterval 0 = .ok (.aload_n 2, 1) := by decide +kernel
theorem dL_hopInterval_1 : decode cL_hopInterval 1 = .ok (.iconst 0, 1) := by decide +kernel
theorem dL_hopInterval_2 : decode cL_hopInterval 2 = .ok (.aload_n 0, 1) := by decide +kernel
theorem dL_hopInterval_3 : decode cL_hopInterval 3 = .ok (.iload_n 1, 1) := by decide +kernel
theorem dL_hopInterval_4 : decode cL_hopInterval 4 = .ok (.invokevirtual 71, 3) := by decide +kernel
theorem dL_hopInterval_7 : decode cL_hopInterval 7 = .ok (.dastore, 1) := by decide +kernel
theorem dL_hopInterval_8 : decode cL_hopInterval 8 = .ok (.goto 6, 3) := by decide +kernel
theorem dL_hopInterval_11 : decode cL_hopInterval 11 = .ok (.astore_n 3, 1) := by decide +kernel
theorem dL_hopInterval_12 : decode cL_hopInterval 12 = .ok (.iconst 1, 1) := by decide +kernel
theorem dL_hopInterval_13 : decode cL_hopInterval 13 = .ok (.ireturn, 1) := by decide +kernel
theorem dL_hopInterval_14 : decode cL_hopInterval 14 = .ok (.iconst 0, 1) := by decide +kernel
theorem dL_hopInterval_15 : decode cL_hopInterval 15 = .ok (.ireturn, 1) := by decide +kernel
set_option maxRecDepth 20000 in
theorem ggL_undo_X10_undo : GoodIn wsL_undo wsX10_undo := goodIn_ca (goodIn_r _ [6, 7, 8, 9, 10, 11, 12, 13, 14, 15, 16, 17, 18, 19, 20, 21, 22, 23, 5, 24, 25, 26, 27, 28, 29, 30, 31, 32, 33, 34, 35, 36, 37, 38, 39, 40, 41, 42, 43, 44, 45, 46, 47, 48, 49, 50, 51, 52, 53, 54, 55, 56, 57, 58, 59, 60, 61, 62, 63, 64, 65, 66, 67, 68, 69, 70, 71, 72, 73, 74, 75, 76, 77, 78, 79, 80, 81, 82, 83, 84, 85, 86, 87, 88, 89, 90, 91, 92, 93, 94, 95, 96, 97, 98, 99, 100, 101, 102, 103, 104, 105, 106, 107, 108, 109, 110, 111, 112, 113, 114, 115, 116, 117, 118, 119, 120, 121, 122, 123, 124, 125] (by decide +kernel) (by decide +kernel)) (goodIn_sub (fun _ h => List.mem_cons_of_mem _ (List.mem_append_right _ h)) (by decide +kernel))
set_option maxRecDepth 20000 in
theorem gL_undo_X10_undo : GoodIn wsL_undo (wsV RL 74 RX10 yX10_undo wsX10_undo) := goodIn_app (goodIn_of _ (by decide +kernel)) ggL_undo_X10_undo
theorem dL_undo_0 : decode cL_undo 0 = .ok (.aload_n 1, 1) := by decide +kernel
theorem dL_undo_1 : decode cL_undo 1 = .ok (.iconst 0, 1) := by decide +kernel
theorem dL_undo_2 : decode cL_undo 2 = .ok (.aload_n 0, 1) := by decide +kernel
theorem dL_undo_3 : decode cL_undo 3 = .ok (.invokevirtual 74, 3) := by decide +kernel
theorem dL_undo_6 : decode cL_undo 6 = .ok (.i2l, 1) := by decide +kernel
theorem dL_undo_7 : decode cL_undo 7 = .ok (.lastore, 1) := by decide +kernel
theorem dL_undo_8 : decode cL_undo 8 = .ok (.goto 6, 3) := by decide +kernel
theorem dL_undo_11 : decode cL_undo 11 = .ok (.astore_n 2, 1) := by decide +kernel
theorem dL_undo_12 : decode cL_undo 12 = .ok (.iconst 1, 1) := by decide +kernel
theorem dL_undo_13 : decode cL_undo 13 = .ok (.ireturn, 1) := by decide +kernel
theorem dL_undo_14 : decode cL_undo 14 = .ok (.iconst 0, 1) := by decide +kernel
theorem dL_undo_15 : decode cL_undo 15 = .ok (.ireturn, 1) := by decide +kernel
