theorem dX9_increase_14 : decode cX9_increase 14 = .ok (.return_, 1) := by decide +kernel
set_option maxRecDepth 20000 in
theorem ggX9_fill_J7_fill_53178 : GoodIn wsX9_fill wsJ7_fill_53178 := goodIn_r _ [5] (by decide +kernel) (by decide +kernel)
set_option maxRecDepth 20000 in
theorem gX9_fill_J7_fill_53178 : GoodIn wsX9_fill (va_wsS RX9 35 yJ7_fill_53178 wsJ7_fill_53178) := goodIn_app (goodIn_of _ (by decide +kernel)) ggX9_fill_J7_fill_53178
theorem dX9_fill_0 : decode cX9_fill 0 = .ok (.aload_n 0, 1) := by decide +kernel
theorem dX9_fill_1 : decode cX9_fill 1 = .ok (.getfield 24, 3) := by decide +kernel
theorem dX9_fill_4 : decode cX9_fill 4 = .ok (.iload_n 1, 1) := by decide +kernel
theorem dX9_fill_5 : decode cX9_fill 5 = .ok (.invokestatic 35, 3) := by decide +kernel
theorem dX9_fill_8 : decode cX9_fill 8 = .ok (.return_, 1) := by decide +kernel
set_option maxRecDepth 20000 in
theorem ggX9_removeRow_X10_within : GoodIn wsX9_removeRow wsX10_within := goodIn_r _ [10] (by decide +kernel) (by decide +kernel)
set_option maxRecDepth 20000 in
theorem gX9_removeRow_X10_within_n41 : GoodIn wsX9_removeRow (wsX10_within) := ggX9_removeRow_X10_within
theorem dX9_removeRow_0 : decode cX9_removeRow 0 = .ok (.iload_n 1, 1) := by decide +kernel
theorem dX9_removeRow_1 : decode cX9_removeRow 1 = .ok (.aload_n 0, 1) := by decide +kernel
theorem dX9_removeRow_2 : decode cX9_removeRow 2 = .ok (.getfield 9, 3) := by decide +kernel
theorem dX9_removeRow_5 : decode cX9_removeRow 5 = .ok (.invokestatic 41, 3) := by decide +kernel
theorem dX9_removeRow_8 : decode cX9_removeRow 8 = .ok (.ifCond .eq 40, 3) := by decide +kernel
theorem dX9_removeRow_11 : decode cX9_removeRow 11 = .ok (.iload_n 1, 1) := by decide +kernel
theorem dX9_removeRow_12 : decode cX9_removeRow 12 = .ok (.aload_n 0, 1) := by decide +kernel
theorem dX9_removeRow_13 : decode cX9_removeRow 13 = .ok (.getfield 15, 3) := by decide +kernel
theorem dX9_removeRow_16 : decode cX9_removeRow 16 = .ok (.imul, 1) := by decide +kernel
theorem dX9_removeRow_17 : decode cX9_removeRow 17 = .ok (.istore_n 2, 1) := by decide +kernel
theorem dX9_removeRow_18 : decode cX9_removeRow 18 = .ok (.aload_n 0, 1) := by decide +kernel
theorem dX9_removeRow_19 : decode cX9_removeRow 19 = .ok (.getfield 24, 3) := by decide +kernel
theorem dX9_removeRow_22 : decode cX9_removeRow 22 = .ok (.iload_n 2, 1) := by decide +kernel
theorem dX9_removeRow_23 : decode cX9_removeRow 23 = .ok (.aload_n 0, 1) := by decide +kernel
theorem dX9_removeRow_24 : decode cX9_removeRow 24 = .ok (.getfield 15, 3) := by decide +kernel
theorem dX9_removeRow_27 : decode cX9_removeRow 27 = .ok (.iadd, 1) := by decide +kernel
theorem dX9_removeRow_28 : decode cX9_removeRow 28 = .ok (.aload_n 0, 1) := by decide +kernel
theorem dX9_removeRow_29 : decode cX9_removeRow 29 = .ok (.getfield 24, 3) := by decide +kernel
theorem dX9_removeRow_32 : decode cX9_removeRow 32 = .ok (.iload_n 2, 1) := by decide +kernel
theorem dX9_removeRow_33 : decode cX9_removeRow 33 = .ok (.aload_n 0, 1) := by decide +kernel
theorem dX9_removeRow_34 : decode cX9_removeRow 34 = .ok (.getfield 24, 3) := by decide +kernel
theorem dX9_removeRow_37 : decode cX9_removeRow 37 = .ok (.arraylength, 1) := by decide +kernel
theorem dX9_removeRow_38 : decode cX9_removeRow 38 = .ok (.iload_n 2, 1) := by decide +kernel
theorem dX9_removeRow_39 : decode cX9_removeRow 39 = .ok (.isub, 1) := by decide +kernel
theorem dX9_removeRow_40 : decode cX9_removeRow 40 = .ok (.aload_n 0, 1) := by decide +kernel
theorem dX9_removeRow_41 : decode cX9_removeRow 41 = .ok (.getfield 15, 3) := by decide +kernel
theorem dX9_removeRow_44 : decode cX9_removeRow 44 = .ok (.isub, 1) := by decide +kernel
theorem dX9_removeRow_45 : decode cX9_removeRow 45 = .ok (.invokestatic 45, 3) := by decide +kernel
theorem dX9_removeRow_48 : decode cX9_removeRow 48 = .ok (.return_, 1) := by decide +kernel
theorem dX9_copyFrom_0 : decode cX9_copyFrom 0 = .ok (.aload_n 1, 1) := by decide +kernel
theorem dX9_copyFrom_1 : decode cX9_copyFrom 1 = .ok (.getfield 24, 3) := by decide +kernel
theorem dX9_copyFrom_4 : decode cX9_copyFrom 4 = .ok (.iconst 0, 1) := by decide +kernel
theorem dX9_copyFrom_5 : decode cX9_copyFrom 5 = .ok (.aload_n 0, 1) := by decide +kernel
theorem dX9_copyFrom_6 : decode cX9_copyFrom 6 = .ok (.getfield 24, 3) := by decide +kernel
theorem dX9_copyFrom_9 : decode cX9_copyFrom 9 = .ok (.iconst 0, 1) := by decide +kernel
theorem dX9_copyFrom_10 : decode cX9_copyFrom 10 = .ok (.aload_n 0, 1) := by decide +kernel
theorem dX9_copyFrom_11 : decode cX9_copyFrom 11 = .ok (.getfield 24, 3) := by decide +kernel
theorem dX9_copyFrom_14 : decode cX9_copyFrom 14 = .ok (.arraylength, 1) := by decide +kernel
theorem dX9_copyFrom_15 : decode cX9_copyFrom 15 = .ok (.aload_n 1, 1) := by decide +kernel
theorem dX9_copyFrom_16 : decode cX9_copyFrom 16 = .ok (.getfield 24, 3) := by decide +kernel
theorem dX9_copyFrom_19 : decode cX9_copyFrom 19 = .ok (.arraylength, 1) := by decide +kernel
theorem dX9_copyFrom_20 : decode cX9_copyFrom 20 = .ok (.invokestatic 51, 3) := by decide +kernel
theorem dX9_copyFrom_23 : decode cX9_copyFrom 23 = .ok (.invokestatic 45, 3) := by decide +kernel
theorem dX9_copyFrom_26 : decode cX9_copyFrom 26 = .ok (.return_, 1) := by decide +kernel
set_option maxRecDepth 20000 in
theorem ggX9_mixRows_X9_mixRow : GoodIn wsX9_mixRows wsX9_mixRow := goodIn_r _ [5, 6, 7, 8, 9, 4, 10, 11, 12, 13, 14, 15, 16, 17, 18, 19] (by decide +kernel) (by decide +kernel)
set_option maxRecDepth 20000 in
theorem gX9_mixRows_X9_mixRow : GoodIn wsX9_mixRows (wsV RX9 54 RX9 yX9_mixRow wsX9_mixRow) := goodIn_app (goodIn_of _ (by decide +kernel)) ggX9_mixRows_X9_mixRow
theorem dX9_mixRows_0 : decode cX9_mixRows 0 = .ok (.lload_n 1, 1) := by decide +kernel
theorem dX9_mixRows_1 : decode cX9_mixRows 1 = .ok (.lstore 4, 2) := by decide +kernel
theorem dX9_mixRows_3 : decode cX9_mixRows 3 = .ok (.iconst 0, 1) := by decide +kernel
theorem dX9_mixRows_4 : decode cX9_mixRows 4 = .ok (.istore 6, 2) := by decide +kernel
theorem dX9_mixRows_6 : decode cX9_mixRows 6 = .ok (.iload 6, 2) := by decide +kernel
theorem dX9_mixRows_8 : decode cX9_mixRows 8 = .ok (.iload_n 3, 1) := by decide +kernel
theorem dX9_mixRows_9 : decode cX9_mixRows 9 = .ok (.if_icmp .ge 19, 3) := by decide +kernel
theorem dX9_mixRows_12 : decode cX9_mixRows 12 = .ok (.aload_n 0, 1) := by decide +kernel
theorem dX9_mixRows_13 : decode cX9_mixRows 13 = .ok (.lload 4, 2) := by decide +kernel
theorem dX9_mixRows_15 : decode cX9_mixRows 15 = .ok (.iload 6, 2) := by decide +kernel
theorem dX9_mixRows_17 : decode cX9_mixRows 17 = .ok (.invokevirtual 54, 3) := by decide +kernel
theorem dX9_mixRows_20 : decode cX9_mixRows 20 = .ok (.lstore 4, 2) := by decide +kernel
theorem dX9_mixRows_22 : decode cX9_mixRows 22 = .ok (.iinc 6 1, 3) := by decide +kernel
theorem dX9_mixRows_25 : decode cX9_mixRows 25 = .ok (.goto (-19), 3) := by decide +kernel
theorem dX9_mixRows_28 : decode cX9_mixRows 28 = .ok (.lload 4, 2) := by decide +kernel
theorem dX9_mixRows_30 : decode cX9_mixRows 30 = .ok (.lreturn, 1) := by decide +kernel
set_option maxRecDepth 20000 in
theorem ggX9_mixRow_X9_get : GoodIn wsX9_mixRow wsX9_get := goodIn_r _ [6, 7, 1, 8, 13, 14, 15] (by decide +kernel) (by decide +kernel)
set_option maxRecDepth 20000 in
theorem gX9_mixRow_X9_get : GoodIn wsX9_mixRow (wsV RX9 28 RX9 yX9_get wsX9_get) := goodIn_app (goodIn_of _ (by decide +kernel)) ggX9_mixRow_X9_get
set_option maxRecDepth 20000 in
theorem ggX9_mixRow_X10_mix : GoodIn wsX9_mixRow wsX10_mix := goodIn_r _ [11, 12] (by decide +kernel) (by decide +kernel)
set_option maxRecDepth 20000 in
theorem gX9_mixRow_X10_mix_n58 : GoodIn wsX9_mixRow (wsX10_mix) := ggX9_mixRow_X10_mix
theorem dX9_mixRow_0 : decode cX9_mixRow 0 = .ok (.lload_n 1, 1) := by decide +kernel
theorem dX9_mixRow_1 : decode cX9_mixRow 1 = .ok (.lstore 4, 2) := by decide +kernel
theorem dX9_mixRow_3 : decode cX9_mixRow 3 = .ok (.iconst 0, 1) := by decide +kernel
theorem dX9_mixRow_4 : decode cX9_mixRow 4 = .ok (.istore 6, 2) := by decide +kernel
theorem dX9_mixRow_6 : decode cX9_mixRow 6 = .ok (.iload 6, 2) := by decide +kernel
theorem dX9_mixRow_8 : decode cX9_mixRow 8 = .ok (.aload_n 0, 1) := by decide +kernel
theorem dX9_mixRow_9 : decode cX9_mixRow 9 = .ok (.getfield 15, 3) := by decide +kernel
theorem dX9_mixRow_12 : decode cX9_mixRow 12 = .ok (.if_icmp .ge 23, 3) := by decide +kernel
theorem dX9_mixRow_15 : decode cX9_mixRow 15 = .ok (.lload 4, 2) := by decide +kernel
theorem dX9_mixRow_17 : decode cX9_mixRow 17 = .ok (.aload_n 0, 1) := by decide +kernel
theorem dX9_mixRow_18 : decode cX9_mixRow 18 = .ok (.iload_n 3, 1) := by decide +kernel
theorem dX9_mixRow_19 : decode cX9_mixRow 19 = .ok (.iload 6, 2) := by decide +kernel
theorem dX9_mixRow_21 : decode cX9_mixRow 21 = .ok (.invokevirtual 28, 3) := by decide +kernel
theorem dX9_mixRow_24 : decode cX9_mixRow 24 = .ok (.invokestatic 58, 3) := by decide +kernel
theorem dX9_mixRow_27 : decode cX9_mixRow 27 = .ok (.lstore 4, 2) := by decide +kernel
theorem dX9_mixRow_29 : decode cX9_mixRow 29 = .ok (.iinc 6 1, 3) := by decide +kernel
theorem dX9_mixRow_32 : decode cX9_mixRow 32 = .ok (.goto (-26), 3) := by decide +kernel
theorem dX9_mixRow_35 : decode cX9_mixRow 35 = .ok (.lload 4, 2) := by decide +kernel
theorem dX9_mixRow_37 : decode cX9_mixRow 37 = .ok (.lreturn, 1) := by decide +kernel
set_option maxRecDepth 20000 in
theorem ggX10_init_X6_init : GoodIn wsX10_init wsX6_init := goodIn_r _ [28, 29, 2, 3, 30, 10, 11, 31, 32, 33, 34, 35, 36, 37, 38, 39, 40, 41, 42, 43, 25, 44, 45, 46, 47, 48, 49, 50, 51, 52, 53, 54, 55, 56, 57, 58, 59, 146, 147, 135, 136, 137, 138, 164, 165, 166, 167, 168, 169, 170] (by decide +kernel) (by decide +kernel)
set_option maxRecDepth 20000 in
theorem gX10_init_X6_init_n9 : GoodIn wsX10_init (wsX6_init) := ggX10_init_X6_init
set_option maxRecDepth 20000 in
theorem ggX10_init_X0_init : GoodIn wsX10_init wsX0_init := goodIn_r _ [38, 39, 2, 3, 40, 41, 42, 43, 25, 44, 146, 147] (by decide +kernel) (by decide +kernel)
set_option maxRecDepth 20000 in
theorem gX10_init_X0_init : GoodIn wsX10_init (wsX0_init) := ggX10_init_X0_init
set_option maxRecDepth 20000 in
theorem ggX10_init_X8_init : GoodIn wsX10_init wsX8_init := goodIn_r _ [62, 63, 2, 3, 64, 65, 66, 67, 68, 33, 34, 69, 70, 71, 72, 73, 74, 75, 76, 77, 78, 79, 80, 81, 82, 83, 84, 85, 49, 50, 86, 87, 53, 54, 55, 56, 57, 58, 41, 42, 43, 25, 59, 45, 46, 47, 48, 51, 52, 88, 89, 90, 91, 92, 93, 94, 95, 96, 97, 98, 99, 100, 101, 102, 103, 104, 105, 106, 107, 108, 109, 110, 111, 112, 113, 114, 115, 116, 117, 118, 119, 120, 121, 122, 171, 172, 148, 149, 150, 151, 152, 153, 154, 155, 156, 164, 165, 166, 167, 173, 174, 175, 176, 177, 178, 179, 168, 169, 170] (by decide +kernel) (by decide +kernel)
set_option maxRecDepth 20000 in
theorem gX10_init_X8_init_n31 : GoodIn wsX10_init (wsX8_init) := ggX10_init_X8_init
set_option maxRecDepth 20000 in
theorem ggX10_init_X3_init : GoodIn wsX10_init wsX3_init := goodIn_r _ [125, 126, 2, 3, 127, 128, 14, 15, 61, 62, 63, 64, 65, 66, 67, 68, 33, 34, 69, 70, 71, 72, 73, 74, 75, 76, 77, 78, 79, 80, 81, 82, 83, 84, 85, 49, 50, 86, 87, 53, 54, 55, 56, 57, 58, 41, 42, 43, 25, 59, 45, 46, 47, 48, 51, 52, 88, 89, 90, 91, 92, 93, 94, 95, 96, 97, 98, 99, 100, 101, 102, 103, 104, 105, 106, 107, 108, 109, 110, 111, 112, 113, 114, 115, 116, 117, 118, 119, 120, 121, 122, 157, 158, 159, 148, 149, 150, 151, 152, 153, 154, 155, 156, 171, 172, 164, 165, 166, 167, 173, 174, 175, 176, 177, 178, 179, 168, 169, 170] (by decide +kernel) (by decide +kernel)
set_option maxRecDepth 20000 in
theorem gX10_init_X3_init : GoodIn wsX10_init (wsX3_init) := ggX10_init_X3_init
set_option maxRecDepth 20000 in
theorem ggX10_init_X4_init : GoodIn wsX10_init wsX4_init := goodIn_r _ [130, 131, 2, 3, 25, 132, 133, 134, 160, 161, 162, 163] (by decide +kernel) (by decide +kernel)
set_option maxRecDepth 20000 in
theorem gX10_init_X4_init_n45 : GoodIn wsX10_init (wsX4_init) := ggX10_init_X4_init
theorem dX10_init_0 : decode cX10_init 0 = .ok (.aload_n 0, 1) := by decide +kernel
theorem dX10_init_1 : decode cX10_init 1 = .ok (.invokespecial 1, 3) := by decide +kernel
theorem dX10_init_4 : decode cX10_init 4 = .ok (.aload_n 0, 1) := by decide +kernel
theorem dX10_init_5 : decode cX10_init 5 = .ok (.new 7, 3) := by decide +kernel
theorem dX10_init_8 : decode cX10_init 8 = .ok (.dup, 1) := by decide +kernel
theorem dX10_init_9 : decode cX10_init 9 = .ok (.invokespecial 9, 3) := by decide +kernel
theorem dX10_init_12 : decode cX10_init 12 = .ok (.putfield 10, 3) := by decide +kernel
theorem dX10_init_15 : decode cX10_init 15 = .ok (.aload_n 0, 1) := by decide +kernel
theorem dX10_init_16 : decode cX10_init 16 = .ok (.aload_n 0, 1) := by decide +kernel
theorem dX10_init_17 : decode cX10_init 17 = .ok (.getfield 10, 3) := by decide +kernel
theorem dX10_init_20 : decode cX10_init 20 = .ok (.getfield 16, 3) := by decide +kernel
theorem dX10_init_23 : decode cX10_init 23 = .ok (.putfield 20, 3) := by decide +kernel
theorem dX10_init_26 : decode cX10_init 26 = .ok (.aload_n 0, 1) := by decide +kernel
theorem dX10_init_27 : decode cX10_init 27 = .ok (.new 21, 3) := by decide +kernel
theorem dX10_init_30 : decode cX10_init 30 = .ok (.dup, 1) := by decide +kernel
theorem dX10_init_31 : decode cX10_init 31 = .ok (.bipush 108, 2) := by decide +kernel
theorem dX10_init_33 : decode cX10_init 33 = .ok (.invokespecial 23, 3) := by decide +kernel
theorem dX10_init_36 : decode cX10_init 36 = .ok (.putfield 26, 3) := by decide +kernel
theorem dX10_init_39 : decode cX10_init 39 = .ok (.aload_n 0, 1) := by decide +kernel
theorem dX10_init_40 : decode cX10_init 40 = .ok (.new 29, 3) := by decide +kernel
theorem dX10_init_43 : decode cX10_init 43 = .ok (.dup, 1) := by decide +kernel
theorem dX10_init_44 : decode cX10_init 44 = .ok (.invokespecial 31, 3) := by decide +kernel
theorem dX10_init_47 : decode cX10_init 47 = .ok (.putfield 32, 3) := by decide +kernel
theorem dX10_init_50 : decode cX10_init 50 = .ok (.aload_n 0, 1) := by decide +kernel
theorem dX10_init_51 : decode cX10_init 51 = .ok (.new 36, 3) := by decide +kernel
theorem dX10_init_54 : decode cX10_init 54 = .ok (.dup, 1) := by decide +kernel
theorem dX10_init_55 : decode cX10_init 55 = .ok (.invokespecial 38, 3) := by decide +kernel
theorem dX10_init_58 : decode cX10_init 58 = .ok (.putfield 39, 3) := by decide +kernel
theorem dX10_init_61 : decode cX10_init 61 = .ok (.aload_n 0, 1) := by decide +kernel
theorem dX10_init_62 : decode cX10_init 62 = .ok (.new 43, 3) := by decide +kernel
theorem dX10_init_65 : decode cX10_init 65 = .ok (.dup, 1) := by decide +kernel
theorem dX10_init_66 : decode cX10_init 66 = .ok (.invokespecial 45, 3) := by decide +kernel
theorem dX10_init_69 : decode cX10_init 69 = .ok (.putfield 46, 3) := by decide +kernel
theorem dX10_init_72 : decode cX10_init 72 = .ok (.aload_n 0, 1) := by decide +kernel
theorem dX10_init_73 : decode cX10_init 73 = .ok (.bipush 32, 2) := by decide +kernel
theorem dX10_init_75 : decode cX10_init 75 = .ok (.newarray .int, 2) := by decide +kernel
theorem dX10_init_77 : decode cX10_init 77 = .ok (.putfield 50, 3) := by decide +kernel
theorem dX10_init_80 : decode cX10_init 80 = .ok (.return_, 1) := by decide +kernel
set_option maxRecDepth 20000 in
theorem ggX10_addPulsed_X10_requireArgument : GoodIn wsX10_addPulsed wsX10_requireArgument := goodIn_ca (goodIn_r _ [7, 8, 9] (by decide +kernel) (by decide +kernel)) (goodIn_sub (fun _ h => List.mem_cons_of_mem _ (List.mem_append_left _ (List.mem_append_right _ h))) (by decide +kernel))
set_option maxRecDepth 20000 in
theorem gX10_addPulsed_X10_requireArgument : GoodIn wsX10_addPulsed (va_wsS RX10 54 yX10_requireArgument wsX10_requireArgument) := goodIn_app (goodIn_of _ (by decide +kernel)) ggX10_addPulsed_X10_requireArgument
set_option maxRecDepth 20000 in
theorem ggX10_addPulsed_X10_requireRoomForSignal : GoodIn wsX10_addPulsed wsX10_requireRoomForSignal := goodIn_ca (goodIn_r _ [13, 14, 15, 3, 111, 112, 113, 114, 115, 116, 117, 118, 119, 120, 121, 122, 123, 124, 125, 126, 127, 128] (by decide +kernel) (by decide +kernel)) (goodIn_sub (fun _ h => List.mem_cons_of_mem _ (List.mem_append_right _ h)) (by decide +kernel))
set_option maxRecDepth 20000 in
theorem gX10_addPulsed_X10_requireRoomForSignal : GoodIn wsX10_addPulsed (wsV RX10 59 RX10 yX10_requireRoomForSignal wsX10_requireRoomForSignal) := goodIn_app (goodIn_of _ (by decide +kernel)) ggX10_addPulsed_X10_requireRoomForSignal
set_option maxRecDepth 20000 in
theorem ggX10_addPulsed_X3_save : GoodIn wsX10_addPulsed wsX3_save := goodIn_r _ [20, 21, 22, 23, 24, 25, 26, 27, 28, 29, 30, 19, 31, 32, 6, 33, 34, 35, 36, 37, 38, 39, 40, 41, 42, 43, 44, 45, 46, 47, 48, 49, 50, 51, 52, 53, 54, 55, 56, 57, 58, 59, 60, 61, 62, 63, 64, 65, 66, 67, 68, 69, 70, 71, 72, 73, 74, 75, 76, 77, 78, 79, 80, 81, 82, 83, 84, 85, 86, 87, 88, 89, 90, 91, 92, 93, 94, 95, 96, 129, 130, 131, 118, 119, 120, 121, 122, 123, 124, 125, 126, 127, 128, 132, 133, 134, 135, 136, 137, 138, 139, 140, 141, 142, 143, 144, 145] (by decide +kernel) (by decide +kernel)
set_option maxRecDepth 20000 in
theorem gX10_addPulsed_X3_save : GoodIn wsX10_addPulsed (wsV RX10 62 RX3 yX3_save wsX3_save) := goodIn_app (goodIn_of _ (by decide +kernel)) ggX10_addPulsed_X3_save
set_option maxRecDepth 20000 in
theorem ggX10_addPulsed_X7_add : GoodIn wsX10_addPulsed wsX7_add := goodIn_r _ [100, 54, 53, 101, 102, 103, 58, 104, 105, 106, 60, 127, 128, 132, 133, 134] (by decide +kernel) (by decide +kernel)
set_option maxRecDepth 20000 in
theorem gX10_addPulsed_X7_add : GoodIn wsX10_addPulsed (wsV RX10 70 RX7 yX7_add wsX7_add) := goodIn_app (goodIn_of _ (by decide +kernel)) ggX10_addPulsed_X7_add
set_option maxRecDepth 20000 in
theorem ggX10_addPulsed_X7_put : GoodIn wsX10_addPulsed wsX7_put := goodIn_r _ [110, 53, 101, 102, 103, 58, 104, 105, 106, 60, 127, 128, 132, 133, 134] (by decide +kernel) (by decide +kernel)
set_option maxRecDepth 20000 in
theorem gX10_addPulsed_X7_put : GoodIn wsX10_addPulsed (wsV RX10 76 RX7 yX7_put wsX7_put) := goodIn_app (goodIn_of _ (by decide +kernel)) ggX10_addPulsed_X7_put
theorem dX10_addPulsed_0 : decode cX10_addPulsed 0 = .ok (.iload_n 1, 1) := by decide +kernel
theorem dX10_addPulsed_1 : decode cX10_addPulsed 1 = .ok (.iconst 0, 1) := by decide +kernel
theorem dX10_addPulsed_2 : decode cX10_addPulsed 2 = .ok (.bipush 31, 2) := by decide +kernel
theorem dX10_addPulsed_4 : decode cX10_addPulsed 4 = .ok (.invokestatic 54, 3) := by decide +kernel
theorem dX10_addPulsed_7 : decode cX10_addPulsed 7 = .ok (.iload_n 2, 1) := by decide +kernel
theorem dX10_addPulsed_8 : decode cX10_addPulsed 8 = .ok (.iconst 0, 1) := by decide +kernel
theorem dX10_addPulsed_9 : decode cX10_addPulsed 9 = .ok (.bipush 100, 2) := by decide +kernel
theorem dX10_addPulsed_11 : decode cX10_addPulsed 11 = .ok (.invokestatic 54, 3) := by decide +kernel
theorem dX10_addPulsed_14 : decode cX10_addPulsed 14 = .ok (.iload_n 3, 1) := by decide +kernel
theorem dX10_addPulsed_15 : decode cX10_addPulsed 15 = .ok (.iconst 0, 1) := by decide +kernel
theorem dX10_addPulsed_16 : decode cX10_addPulsed 16 = .ok (.ldc 58, 2) := by decide +kernel
theorem dX10_addPulsed_18 : decode cX10_addPulsed 18 = .ok (.invokestatic 54, 3) := by decide +kernel
theorem dX10_addPulsed_21 : decode cX10_addPulsed 21 = .ok (.iload 5, 2) := by decide +kernel
theorem dX10_addPulsed_23 : decode cX10_addPulsed 23 = .ok (.iconst 1, 1) := by decide +kernel
theorem dX10_addPulsed_24 : decode cX10_addPulsed 24 = .ok (.sipush 1000, 3) := by decide +kernel
theorem dX10_addPulsed_27 : decode cX10_addPulsed 27 = .ok (.invokestatic 54, 3) := by decide +kernel
theorem dX10_addPulsed_30 : decode cX10_addPulsed 30 = .ok (.iload 4, 2) := by decide +kernel
theorem dX10_addPulsed_32 : decode cX10_addPulsed 32 = .ok (.iconst 1, 1) := by decide +kernel
theorem dX10_addPulsed_33 : decode cX10_addPulsed 33 = .ok (.iload 5, 2) := by decide +kernel
theorem dX10_addPulsed_35 : decode cX10_addPulsed 35 = .ok (.invokestatic 54, 3) := by decide +kernel
theorem dX10_addPulsed_38 : decode cX10_addPulsed 38 = .ok (.aload_n 0, 1) := by decide +kernel
theorem dX10_addPulsed_39 : decode cX10_addPulsed 39 = .ok (.invokevirtual 59, 3) := by decide +kernel
theorem dX10_addPulsed_42 : decode cX10_addPulsed 42 = .ok (.aload_n 0, 1) := by decide +kernel
theorem dX10_addPulsed_43 : decode cX10_addPulsed 43 = .ok (.getfield 39, 3) := by decide +kernel
theorem dX10_addPulsed_46 : decode cX10_addPulsed 46 = .ok (.aload_n 0, 1) := by decide +kernel
theorem dX10_addPulsed_47 : decode cX10_addPulsed 47 = .ok (.getfield 32, 3) := by decide +kernel
theorem dX10_addPulsed_50 : decode cX10_addPulsed 50 = .ok (.invokevirtual 62, 3) := by decide +kernel
theorem dX10_addPulsed_53 : decode cX10_addPulsed 53 = .ok (.aload_n 0, 1) := by decide +kernel
theorem dX10_addPulsed_54 : decode cX10_addPulsed 54 = .ok (.getfield 32, 3) := by decide +kernel
theorem dX10_addPulsed_57 : decode cX10_addPulsed 57 = .ok (.getfield 66, 3) := by decide +kernel
theorem dX10_addPulsed_60 : decode cX10_addPulsed 60 = .ok (.iconst 0, 1) := by decide +kernel
theorem dX10_addPulsed_61 : decode cX10_addPulsed 61 = .ok (.invokevirtual 70, 3) := by decide +kernel
theorem dX10_addPulsed_64 : decode cX10_addPulsed 64 = .ok (.istore 6, 2) := by decide +kernel
theorem dX10_addPulsed_66 : decode cX10_addPulsed 66 = .ok (.aload_n 0, 1) := by decide +kernel
theorem dX10_addPulsed_67 : decode cX10_addPulsed 67 = .ok (.getfield 32, 3) := by decide +kernel
theorem dX10_addPulsed_70 : decode cX10_addPulsed 70 = .ok (.getfield 66, 3) := by decide +kernel
theorem dX10_addPulsed_73 : decode cX10_addPulsed 73 = .ok (.iload 6, 2) := by decide +kernel
theorem dX10_addPulsed_75 : decode cX10_addPulsed 75 = .ok (.iconst 1, 1) := by decide +kernel
theorem dX10_addPulsed_76 : decode cX10_addPulsed 76 = .ok (.iload_n 1, 1) := by decide +kernel
theorem dX10_addPulsed_77 : decode cX10_addPulsed 77 = .ok (.invokevirtual 76, 3) := by decide +kernel
theorem dX10_addPulsed_80 : decode cX10_addPulsed 80 = .ok (.aload_n 0, 1) := by decide +kernel
theorem dX10_addPulsed_81 : decode cX10_addPulsed 81 = .ok (.getfield 32, 3) := by decide +kernel
theorem dX10_addPulsed_84 : decode cX10_addPulsed 84 = .ok (.getfield 66, 3) := by decide +kernel
theorem dX10_addPulsed_87 : decode cX10_addPulsed 87 = .ok (.iload 6, 2) := by decide +kernel
theorem dX10_addPulsed_89 : decode cX10_addPulsed 89 = .ok (.iconst 2, 1) := by decide +kernel
theorem dX10_addPulsed_90 : decode cX10_addPulsed 90 = .ok (.iload_n 2, 1) := by decide +kernel
theorem dX10_addPulsed_91 : decode cX10_addPulsed 91 = .ok (.invokevirtual 76, 3) := by decide +kernel
theorem dX10_addPulsed_94 : decode cX10_addPulsed 94 = .ok (.aload_n 0, 1) := by decide +kernel
theorem dX10_addPulsed_95 : decode cX10_addPulsed 95 = .ok (.getfield 32, 3) := by decide +kernel
theorem dX10_addPulsed_98 : decode cX10_addPulsed 98 = .ok (.getfield 66, 3) := by decide +kernel
theorem dX10_addPulsed_101 : decode cX10_addPulsed 101 = .ok (.iload 6, 2) := by decide +kernel
theorem dX10_addPulsed_103 : decode cX10_addPulsed 103 = .ok (.iconst 3, 1) := by decide +kernel
theorem dX10_addPulsed_104 : decode cX10_addPulsed 104 = .ok (.iload_n 3, 1) := by decide +kernel
theorem dX10_addPulsed_105 : decode cX10_addPulsed 105 = .ok (.invokevirtual 76, 3) := by decide +kernel
theorem dX10_addPulsed_108 : decode cX10_addPulsed 108 = .ok (.aload_n 0, 1) := by decide +kernel
theorem dX10_addPulsed_109 : decode cX10_addPulsed 109 = .ok (.getfield 32, 3) := by decide +kernel
theorem dX10_addPulsed_112 : decode cX10_addPulsed 112 = .ok (.getfield 66, 3) := by decide +kernel
theorem dX10_addPulsed_115 : decode cX10_addPulsed 115 = .ok (.iload 6, 2) := by decide +kernel
theorem dX10_addPulsed_117 : decode cX10_addPulsed 117 = .ok (.iconst 4, 1) := by decide +kernel
theorem dX10_addPulsed_118 : decode cX10_addPulsed 118 = .ok (.iload 4, 2) := by decide +kernel
theorem dX10_addPulsed_120 : decode cX10_addPulsed 120 = .ok (.invokevirtual 76, 3) := by decide +kernel
theorem dX10_addPulsed_123 : decode cX10_addPulsed 123 = .ok (.aload_n 0, 1) := by decide +kernel
theorem dX10_addPulsed_124 : decode cX10_addPulsed 124 = .ok (.getfield 32, 3) := by decide +kernel
theorem dX10_addPulsed_127 : decode cX10_addPulsed 127 = .ok (.getfield 66, 3) := by decide +kernel
theorem dX10_addPulsed_130 : decode cX10_addPulsed 130 = .ok (.iload 6, 2) := by decide +kernel
theorem dX10_addPulsed_132 : decode cX10_addPulsed 132 = .ok (.iconst 5, 1) := by decide +kernel
theorem dX10_addPulsed_133 : decode cX10_addPulsed 133 = .ok (.iload 5, 2) := by decide +kernel
theorem dX10_addPulsed_135 : decode cX10_addPulsed 135 = .ok (.invokevirtual 76, 3) := by decide +kernel
theorem dX10_addPulsed_138 : decode cX10_addPulsed 138 = .ok (.iload 6, 2) := by decide +kernel
theorem dX10_addPulsed_140 : decode cX10_addPulsed 140 = .ok (.ireturn, 1) := by decide +kernel
set_option maxRecDepth 20000 in
theorem ggX10_addHopping_X10_requireArgument : GoodIn wsX10_addHopping wsX10_requireArgument := goodIn_ca (goodIn_r _ [7, 8, 9] (by decide +kernel) (by decide +kernel)) (goodIn_sub (fun _ h => List.mem_cons_of_mem _ (List.mem_append_left _ (List.mem_append_right _ h))) (by decide +kernel))
set_option maxRecDepth 20000 in
theorem gX10_addHopping_X10_requireArgument : GoodIn wsX10_addHopping (va_wsS RX10 54 yX10_requireArgument wsX10_requireArgument) := goodIn_app (goodIn_of _ (by decide +kernel)) ggX10_addHopping_X10_requireArgument
set_option maxRecDepth 20000 in
theorem ggX10_addHopping_X10_requireRoomForSignal : GoodIn wsX10_addHopping wsX10_requireRoomForSignal := goodIn_ca (goodIn_r _ [13, 14, 15, 3, 111, 112, 113, 114, 115, 116, 117, 118, 119, 120, 121, 122, 123, 124, 125, 126, 127, 128] (by decide +kernel) (by decide +kernel)) (goodIn_sub (fun _ h => List.mem_cons_of_mem _ (List.mem_append_right _ h)) (by decide +kernel))
set_option maxRecDepth 20000 in
theorem gX10_addHopping_X10_requireRoomForSignal : GoodIn wsX10_addHopping (wsV RX10 59 RX10 yX10_requireRoomForSignal wsX10_requireRoomForSignal) := goodIn_app (goodIn_of _ (by decide +kernel)) ggX10_addHopping_X10_requireRoomForSignal
set_option maxRecDepth 20000 in
theorem ggX10_addHopping_X3_save : GoodIn wsX10_addHopping wsX3_save := goodIn_r _ [20, 21, 22, 23, 24, 25, 26, 27, 28, 29, 30, 19, 31, 32, 6, 33, 34, 35, 36, 37, 38, 39, 40, 41, 42, 43, 44, 45, 46, 47, 48, 49, 50, 51, 52, 53, 54, 55, 56, 57, 58, 59, 60, 61, 62, 63, 64, 65, 66, 67, 68, 69, 70, 71, 72, 73, 74, 75, 76, 77, 78, 79, 80, 81, 82, 83, 84, 85, 86, 87, 88, 89, 90, 91, 92, 93, 94, 95, 96, 129, 130, 131, 118, 119, 120, 121, 122, 123, 124, 125, 126, 127, 128, 132, 133, 134, 135, 136, 137, 138, 139, 140, 141, 142, 143, 144, 145] (by decide +kernel) (by decide +kernel)
set_option maxRecDepth 20000 in
theorem gX10_addHopping_X3_save : GoodIn wsX10_addHopping (wsV RX10 62 RX3 yX3_save wsX3_save) := goodIn_app (goodIn_of _ (by decide +kernel)) ggX10_addHopping_X3_save
set_option maxRecDepth 20000 in
theorem ggX10_addHopping_X7_add : GoodIn wsX10_addHopping wsX7_add := goodIn_r _ [100, 54, 53, 101, 102, 103, 58, 104, 105, 106, 60, 127, 128, 132, 133, 134] (by decide +kernel) (by decide +kernel)
set_option maxRecDepth 20000 in
theorem gX10_addHopping_X7_add : GoodIn wsX10_addHopping (wsV RX10 70 RX7 yX7_add wsX7_add) := goodIn_app (goodIn_of _ (by decide +kernel)) ggX10_addHopping_X7_add
set_option maxRecDepth 20000 in
theorem ggX10_addHopping_X7_put : GoodIn wsX10_addHopping wsX7_put := goodIn_r _ [110, 53, 101, 102, 103, 58, 104, 105, 106, 60, 127, 128, 132, 133, 134] (by decide +kernel) (by decide +kernel)
set_option maxRecDepth 20000 in
theorem gX10_addHopping_X7_put : GoodIn wsX10_addHopping (wsV RX10 76 RX7 yX7_put wsX7_put) := goodIn_app (goodIn_of _ (by decide +kernel)) ggX10_addHopping_X7_put
theorem dX10_addHopping_0 : decode cX10_addHopping 0 = .ok (.iload_n 1, 1) := by decide +kernel
theorem dX10_addHopping_1 : decode cX10_addHopping 1 = .ok (.iconst 0, 1) := by decide +kernel
theorem dX10_addHopping_2 : decode cX10_addHopping 2 = .ok (.bipush 31, 2) := by decide +kernel
theorem dX10_addHopping_4 : decode cX10_addHopping 4 = .ok (.invokestatic 54, 3) := by decide +kernel
theorem dX10_addHopping_7 : decode cX10_addHopping 7 = .ok (.iload_n 2, 1) := by decide +kernel
theorem dX10_addHopping_8 : decode cX10_addHopping 8 = .ok (.iconst 1, 1) := by decide +kernel
theorem dX10_addHopping_9 : decode cX10_addHopping 9 = .ok (.bipush 31, 2) := by decide +kernel
theorem dX10_addHopping_11 : decode cX10_addHopping 11 = .ok (.invokestatic 54, 3) := by decide +kernel
theorem dX10_addHopping_14 : decode cX10_addHopping 14 = .ok (.iload_n 3, 1) := by decide +kernel
theorem dX10_addHopping_15 : decode cX10_addHopping 15 = .ok (.iconst 1, 1) := by decide +kernel
theorem dX10_addHopping_16 : decode cX10_addHopping 16 = .ok (.sipush 1000, 3) := by decide +kernel
theorem dX10_addHopping_19 : decode cX10_addHopping 19 = .ok (.invokestatic 54, 3) := by decide +kernel
theorem dX10_addHopping_22 : decode cX10_addHopping 22 = .ok (.iload 4, 2) := by decide +kernel
theorem dX10_addHopping_24 : decode cX10_addHopping 24 = .ok (.iconst 0, 1) := by decide +kernel
theorem dX10_addHopping_25 : decode cX10_addHopping 25 = .ok (.bipush 100, 2) := by decide +kernel
theorem dX10_addHopping_27 : decode cX10_addHopping 27 = .ok (.invokestatic 54, 3) := by decide +kernel
theorem dX10_addHopping_30 : decode cX10_addHopping 30 = .ok (.iload 5, 2) := by decide +kernel
theorem dX10_addHopping_32 : decode cX10_addHopping 32 = .ok (.iconst 0, 1) := by decide +kernel
theorem dX10_addHopping_33 : decode cX10_addHopping 33 = .ok (.ldc 58, 2) := by decide +kernel
theorem dX10_addHopping_35 : decode cX10_addHopping 35 = .ok (.invokestatic 54, 3) := by decide +kernel
theorem dX10_addHopping_38 : decode cX10_addHopping 38 = .ok (.aload_n 0, 1) := by decide +kernel
theorem dX10_addHopping_39 : decode cX10_addHopping 39 = .ok (.invokevirtual 59, 3) := by decide +kernel
theorem dX10_addHopping_42 : decode cX10_addHopping 42 = .ok (.aload_n 0, 1) := by decide +kernel
theorem dX10_addHopping_43 : decode cX10_addHopping 43 = .ok (.getfield 39, 3) := by decide +kernel
theorem dX10_addHopping_46 : decode cX10_addHopping 46 = .ok (.aload_n 0, 1) := by decide +kernel
theorem dX10_addHopping_47 : decode cX10_addHopping 47 = .ok (.getfield 32, 3) := by decide +kernel
theorem dX10_addHopping_50 : decode cX10_addHopping 50 = .ok (.invokevirtual 62, 3) := by decide +kernel
theorem dX10_addHopping_53 : decode cX10_addHopping 53 = .ok (.aload_n 0, 1) := by decide +kernel
theorem dX10_addHopping_54 : decode cX10_addHopping 54 = .ok (.getfield 32, 3) := by decide +kernel
theorem dX10_addHopping_57 : decode cX10_addHopping 57 = .ok (.getfield 66, 3) := by decide +kernel
theorem dX10_addHopping_60 : decode cX10_addHopping 60 = .ok (.iconst 1, 1) := by decide +kernel
theorem dX10_addHopping_61 : decode cX10_addHopping 61 = .ok (.invokevirtual 70, 3) := by decide +kernel
theorem dX10_addHopping_64 : decode cX10_addHopping 64 = .ok (.istore 6, 2) := by decide +kernel
theorem dX10_addHopping_66 : decode cX10_addHopping 66 = .ok (.aload_n 0, 1) := by decide +kernel
theorem dX10_addHopping_67 : decode cX10_addHopping 67 = .ok (.getfield 32, 3) := by decide +kernel
theorem dX10_addHopping_70 : decode cX10_addHopping 70 = .ok (.getfield 66, 3) := by decide +kernel
theorem dX10_addHopping_73 : decode cX10_addHopping 73 = .ok (.iload 6, 2) := by decide +kernel
theorem dX10_addHopping_75 : decode cX10_addHopping 75 = .ok (.iconst 1, 1) := by decide +kernel
theorem dX10_addHopping_76 : decode cX10_addHopping 76 = .ok (.iload_n 1, 1) := by decide +kernel
theorem dX10_addHopping_77 : decode cX10_addHopping 77 = .ok (.invokevirtual 76, 3) := by decide +kernel
theorem dX10_addHopping_80 : decode cX10_addHopping 80 = .ok (.aload_n 0, 1) := by decide +kernel
theorem dX10_addHopping_81 : decode cX10_addHopping 81 = .ok (.getfield 32, 3) := by decide +kernel
theorem dX10_addHopping_84 : decode cX10_addHopping 84 = .ok (.getfield 66, 3) := by decide +kernel
theorem dX10_addHopping_87 : decode cX10_addHopping 87 = .ok (.iload 6, 2) := by decide +kernel
theorem dX10_addHopping_89 : decode cX10_addHopping 89 = .ok (.iconst 2, 1) := by decide +kernel
theorem dX10_addHopping_90 : decode cX10_addHopping 90 = .ok (.iload_n 2, 1) := by decide +kernel
theorem dX10_addHopping_91 : decode cX10_addHopping 91 = .ok (.invokevirtual 76, 3) := by decide +kernel
theorem dX10_addHopping_94 : decode cX10_addHopping 94 = .ok (.aload_n 0, 1) := by decide +kernel
theorem dX10_addHopping_95 : decode cX10_addHopping 95 = .ok (.getfield 32, 3) := by decide +kernel
theorem dX10_addHopping_98 : decode cX10_addHopping 98 = .ok (.getfield 66, 3) := by decide +kernel
theorem dX10_addHopping_101 : decode cX10_addHopping 101 = .ok (.iload 6, 2) := by decide +kernel
theorem dX10_addHopping_103 : decode cX10_addHopping 103 = .ok (.iconst 3, 1) := by decide +kernel
theorem dX10_addHopping_104 : decode cX10_addHopping 104 = .ok (.iload_n 3, 1) := by decide +kernel
theorem dX10_addHopping_105 : decode cX10_addHopping 105 = .ok (.invokevirtual 76, 3) := by decide +kernel
theorem dX10_addHopping_108 : decode cX10_addHopping 108 = .ok (.aload_n 0, 1) := by decide +kernel
theorem dX10_addHopping_109 : decode cX10_addHopping 109 = .ok (.getfield 32, 3) := by decide +kernel
theorem dX10_addHopping_112 : decode cX10_addHopping 112 = .ok (.getfield 66, 3) := by decide +kernel
theorem dX10_addHopping_115 : decode cX10_addHopping 115 = .ok (.iload 6, 2) := by decide +kernel
theorem dX10_addHopping_117 : decode cX10_addHopping 117 = .ok (.iconst 4, 1) := by decide +kernel
theorem dX10_addHopping_118 : decode cX10_addHopping 118 = .ok (.iload 4, 2) := by decide +kernel
theorem dX10_addHopping_120 : decode cX10_addHopping 120 = .ok (.invokevirtual 76, 3) := by decide +kernel
theorem dX10_addHopping_123 : decode cX10_addHopping 123 = .ok (.aload_n 0, 1) := by decide +kernel
theorem dX10_addHopping_124 : decode cX10_addHopping 124 = .ok (.getfield 32, 3) := by decide +kernel
theorem dX10_addHopping_127 : decode cX10_addHopping 127 = .ok (.getfield 66, 3) := by decide +kernel
theorem dX10_addHopping_130 : decode cX10_addHopping 130 = .ok (.iload 6, 2) := by decide +kernel
theorem dX10_addHopping_132 : decode cX10_addHopping 132 = .ok (.iconst 5, 1) := by decide +kernel
theorem dX10_addHopping_133 : decode cX10_addHopping 133 = .ok (.iload 5, 2) := by decide +kernel
theorem dX10_addHopping_135 : decode cX10_addHopping 135 = .ok (.invokevirtual 76, 3) := by decide +kernel
theorem dX10_addHopping_138 : decode cX10_addHopping 138 = .ok (.iload 6, 2) := by decide +kernel
theorem dX10_addHopping_140 : decode cX10_addHopping 140 = .ok (.ireturn, 1) := by decide +kernel
set_option maxRecDepth 20000 in
theorem ggX10_removeSignal_X10_requireIndex : GoodIn wsX10_removeSignal wsX10_requireIndex := goodIn_ca (goodIn_r _ [6, 7, 8, 9, 10, 5, 11] (by decide +kernel) (by decide +kernel)) (goodIn_sub (fun _ h => List.mem_cons_of_mem _ (List.mem_append_right _ h)) (by decide +kernel))
set_option maxRecDepth 20000 in
theorem gX10_removeSignal_X10_requireIndex : GoodIn wsX10_removeSignal (va_wsS RX10 83 yX10_requireIndex wsX10_requireIndex) := goodIn_app (goodIn_of _ (by decide +kernel)) ggX10_removeSignal_X10_requireIndex
set_option maxRecDepth 20000 in
theorem ggX10_removeSignal_X3_save : GoodIn wsX10_removeSignal wsX3_save := goodIn_r _ [16, 17, 18, 19, 20, 21, 22, 23, 24, 25, 26, 15, 27, 10, 5, 11, 28, 29, 30, 31, 32, 33, 34, 35, 36, 37, 38, 39, 40, 41, 42, 43, 44, 45, 46, 47, 48, 49, 50, 51, 52, 53, 54, 55, 56, 57, 58, 59, 60, 61, 62, 63, 64, 65, 66, 67, 68, 69, 70, 71, 72, 73, 74, 75, 76, 77, 78, 79, 80, 81, 82, 83, 84, 85, 86, 87, 88, 89, 90, 119, 120, 121, 108, 109, 110, 111, 112, 113, 114, 115, 116, 117, 118, 122, 123, 124, 125, 126, 127, 128, 129, 130, 131, 132, 133, 134, 135] (by decide +kernel) (by decide +kernel)
set_option maxRecDepth 20000 in
theorem gX10_removeSignal_X3_save : GoodIn wsX10_removeSignal (wsV RX10 62 RX3 yX3_save wsX3_save) := goodIn_app (goodIn_of _ (by decide +kernel)) ggX10_removeSignal_X3_save
set_option maxRecDepth 20000 in
theorem ggX10_removeSignal_X7_remove : GoodIn wsX10_removeSignal wsX7_remove := goodIn_r _ [94, 47, 48, 95, 96, 97, 52, 98, 99, 100, 54, 56, 57, 58, 59, 10, 5, 11, 117, 118, 122, 123, 124] (by decide +kernel) (by decide +kernel)
set_option maxRecDepth 20000 in
theorem gX10_removeSignal_X7_remove : GoodIn wsX10_removeSignal (wsV RX10 87 RX7 yX7_remove wsX7_remove) := goodIn_app (goodIn_of _ (by decide +kernel)) ggX10_removeSignal_X7_remove
theorem dX10_removeSignal_0 : decode cX10_removeSignal 0 = .ok (.iload_n 1, 1) := by decide +kernel
theorem dX10_removeSignal_1 : decode cX10_removeSignal 1 = .ok (.aload_n 0, 1) := by decide +kernel
theorem dX10_removeSignal_2 : decode cX10_removeSignal 2 = .ok (.getfield 32, 3) := by decide +kernel
theorem dX10_removeSignal_5 : decode cX10_removeSignal 5 = .ok (.getfield 66, 3) := by decide +kernel
theorem dX10_removeSignal_8 : decode cX10_removeSignal 8 = .ok (.getfield 79, 3) := by decide +kernel
theorem dX10_removeSignal_11 : decode cX10_removeSignal 11 = .ok (.invokestatic 83, 3) := by decide +kernel
theorem dX10_removeSignal_14 : decode cX10_removeSignal 14 = .ok (.aload_n 0, 1) := by decide +kernel
theorem dX10_removeSignal_15 : decode cX10_removeSignal 15 = .ok (.getfield 39, 3) := by decide +kernel
theorem dX10_removeSignal_18 : decode cX10_removeSignal 18 = .ok (.aload_n 0, 1) := by decide +kernel
theorem dX10_removeSignal_19 : decode cX10_removeSignal 19 = .ok (.getfield 32, 3) := by decide +kernel
theorem dX10_removeSignal_22 : decode cX10_removeSignal 22 = .ok (.invokevirtual 62, 3) := by decide +kernel
theorem dX10_removeSignal_25 : decode cX10_removeSignal 25 = .ok (.aload_n 0, 1) := by decide +kernel
theorem dX10_removeSignal_26 : decode cX10_removeSignal 26 = .ok (.getfield 32, 3) := by decide +kernel
theorem dX10_removeSignal_29 : decode cX10_removeSignal 29 = .ok (.getfield 66, 3) := by decide +kernel
theorem dX10_removeSignal_32 : decode cX10_removeSignal 32 = .ok (.iload_n 1, 1) := by decide +kernel
theorem dX10_removeSignal_33 : decode cX10_removeSignal 33 = .ok (.invokevirtual 87, 3) := by decide +kernel
theorem dX10_removeSignal_36 : decode cX10_removeSignal 36 = .ok (.aload_n 0, 1) := by decide +kernel
theorem dX10_removeSignal_37 : decode cX10_removeSignal 37 = .ok (.getfield 32, 3) := by decide +kernel
theorem dX10_removeSignal_40 : decode cX10_removeSignal 40 = .ok (.getfield 66, 3) := by decide +kernel
theorem dX10_removeSignal_43 : decode cX10_removeSignal 43 = .ok (.getfield 79, 3) := by decide +kernel
theorem dX10_removeSignal_46 : decode cX10_removeSignal 46 = .ok (.ireturn, 1) := by decide +kernel
set_option maxRecDepth 20000 in
theorem ggX10_setLevels_X10_requireArgument : GoodIn wsX10_setLevels wsX10_requireArgument := goodIn_ca (goodIn_r _ [6, 7, 8] (by decide +kernel) (by decide +kernel)) (goodIn_sub (fun _ h => List.mem_cons_of_mem _ (List.mem_append_right _ h)) (by decide +kernel))
set_option maxRecDepth 20000 in
theorem gX10_setLevels_X10_requireArgument : GoodIn wsX10_setLevels (va_wsS RX10 54 yX10_requireArgument wsX10_requireArgument) := goodIn_app (goodIn_of _ (by decide +kernel)) ggX10_setLevels_X10_requireArgument
set_option maxRecDepth 20000 in
theorem ggX10_setLevels_X3_save : GoodIn wsX10_setLevels wsX3_save := goodIn_r _ [13, 14, 15, 16, 17, 18, 19, 20, 21, 22, 23, 12, 24, 25, 5, 26, 27, 28, 29, 30, 31, 32, 33, 34, 35, 36, 37, 38, 39, 40, 41, 42, 43, 44, 45, 46, 47, 48, 49, 50, 51, 52, 53, 54, 55, 56, 57, 58, 59, 60, 61, 62, 63, 64, 65, 66, 67, 68, 69, 70, 71, 72, 73, 74, 75, 76, 77, 78, 79, 80, 81, 82, 83, 84, 85, 86, 87, 88, 89, 106, 107, 108, 97, 98, 99, 100, 101, 102, 103, 104, 105, 109, 110, 111, 112, 113, 114, 115, 116, 117, 118, 119, 120, 121, 122, 123, 124] (by decide +kernel) (by decide +kernel)
set_option maxRecDepth 20000 in
theorem gX10_setLevels_X3_save : GoodIn wsX10_setLevels (wsV RX10 62 RX3 yX3_save wsX3_save) := goodIn_app (goodIn_of _ (by decide +kernel)) ggX10_setLevels_X3_save
theorem dX10_setLevels_0 : decode cX10_setLevels 0 = .ok (.iload_n 1, 1) := by decide +kernel
theorem dX10_setLevels_1 : decode cX10_setLevels 1 = .ok (.iconst 0, 1) := by decide +kernel
theorem dX10_setLevels_2 : decode cX10_setLevels 2 = .ok (.bipush 100, 2) := by decide +kernel
theorem dX10_setLevels_4 : decode cX10_setLevels 4 = .ok (.invokestatic 54, 3) := by decide +kernel
theorem dX10_setLevels_7 : decode cX10_setLevels 7 = .ok (.iload_n 2, 1) := by decide +kernel
theorem dX10_setLevels_8 : decode cX10_setLevels 8 = .ok (.iconst 0, 1) := by decide +kernel
theorem dX10_setLevels_9 : decode cX10_setLevels 9 = .ok (.bipush 100, 2) := by decide +kernel
theorem dX10_setLevels_11 : decode cX10_setLevels 11 = .ok (.invokestatic 54, 3) := by decide +kernel
theorem dX10_setLevels_14 : decode cX10_setLevels 14 = .ok (.aload_n 0, 1) := by decide +kernel
theorem dX10_setLevels_15 : decode cX10_setLevels 15 = .ok (.getfield 39, 3) := by decide +kernel
theorem dX10_setLevels_18 : decode cX10_setLevels 18 = .ok (.aload_n 0, 1) := by decide +kernel
theorem dX10_setLevels_19 : decode cX10_setLevels 19 = .ok (.getfield 32, 3) := by decide +kernel
theorem dX10_setLevels_22 : decode cX10_setLevels 22 = .ok (.invokevirtual 62, 3) := by decide +kernel
theorem dX10_setLevels_25 : decode cX10_setLevels 25 = .ok (.aload_n 0, 1) := by decide +kernel
theorem dX10_setLevels_26 : decode cX10_setLevels 26 = .ok (.getfield 32, 3) := by decide +kernel
theorem dX10_setLevels_29 : decode cX10_setLevels 29 = .ok (.getfield 90, 3) := by decide +kernel
theorem dX10_setLevels_32 : decode cX10_setLevels 32 = .ok (.istore_n 3, 1) := by decide +kernel
theorem dX10_setLevels_33 : decode cX10_setLevels 33 = .ok (.aload_n 0, 1) := by decide +kernel
theorem dX10_setLevels_34 : decode cX10_setLevels 34 = .ok (.getfield 32, 3) := by decide +kernel
theorem dX10_setLevels_37 : decode cX10_setLevels 37 = .ok (.iload_n 1, 1) := by decide +kernel
theorem dX10_setLevels_38 : decode cX10_setLevels 38 = .ok (.putfield 93, 3) := by decide +kernel
theorem dX10_setLevels_41 : decode cX10_setLevels 41 = .ok (.aload_n 0, 1) := by decide +kernel
theorem dX10_setLevels_42 : decode cX10_setLevels 42 = .ok (.getfield 32, 3) := by decide +kernel
theorem dX10_setLevels_45 : decode cX10_setLevels 45 = .ok (.iload_n 2, 1) := by decide +kernel
theorem dX10_setLevels_46 : decode cX10_setLevels 46 = .ok (.putfield 90, 3) := by decide +kernel
theorem dX10_setLevels_49 : decode cX10_setLevels 49 = .ok (.iload_n 3, 1) := by decide +kernel
theorem dX10_setLevels_50 : decode cX10_setLevels 50 = .ok (.ireturn, 1) := by decide +kernel
set_option maxRecDepth 20000 in
theorem ggX10_setMask_X10_requireIndex : GoodIn wsX10_setMask wsX10_requireIndex := goodIn_ca (goodIn_r _ [6, 7, 8, 9, 10, 5, 11] (by decide +kernel) (by decide +kernel)) (goodIn_sub (fun _ h => List.mem_cons_of_mem _ (List.mem_append_left _ (List.mem_append_right _ h))) (by decide +kernel))
set_option maxRecDepth 20000 in
theorem gX10_setMask_X10_requireIndex : GoodIn wsX10_setMask (va_wsS RX10 83 yX10_requireIndex wsX10_requireIndex) := goodIn_app (goodIn_of _ (by decide +kernel)) ggX10_setMask_X10_requireIndex
set_option maxRecDepth 20000 in
theorem ggX10_setMask_X10_requireArgument : GoodIn wsX10_setMask wsX10_requireArgument := goodIn_ca (goodIn_r _ [14, 15, 16] (by decide +kernel) (by decide +kernel)) (goodIn_sub (fun _ h => List.mem_cons_of_mem _ (List.mem_append_right _ h)) (by decide +kernel))
set_option maxRecDepth 20000 in
theorem gX10_setMask_X10_requireArgument : GoodIn wsX10_setMask (va_wsS RX10 54 yX10_requireArgument wsX10_requireArgument) := goodIn_app (goodIn_of _ (by decide +kernel)) ggX10_setMask_X10_requireArgument
set_option maxRecDepth 20000 in
theorem ggX10_setMask_X3_save : GoodIn wsX10_setMask wsX3_save := goodIn_r _ [21, 22, 23, 24, 25, 26, 27, 28, 29, 30, 31, 20, 32, 10, 5, 11, 33, 34, 35, 36, 37, 38, 39, 40, 41, 42, 43, 44, 45, 46, 47, 48, 49, 50, 51, 52, 53, 54, 55, 56, 57, 58, 59, 60, 61, 62, 63, 64, 65, 66, 67, 68, 69, 70, 71, 72, 73, 74, 75, 76, 77, 78, 79, 80, 81, 82, 83, 84, 85, 86, 87, 88, 89, 90, 91, 92, 93, 94, 95, 130, 131, 132, 121, 122, 123, 124, 125, 126, 127, 128, 129, 133, 134, 135, 136, 137, 138, 139, 140, 141, 142, 143, 144, 145, 146, 147, 148] (by decide +kernel) (by decide +kernel)
set_option maxRecDepth 20000 in
theorem gX10_setMask_X3_save : GoodIn wsX10_setMask (wsV RX10 62 RX3 yX3_save wsX3_save) := goodIn_app (goodIn_of _ (by decide +kernel)) ggX10_setMask_X3_save
set_option maxRecDepth 20000 in
theorem ggX10_setMask_X1_maskOf : GoodIn wsX10_setMask wsX1_maskOf := goodIn_r _ [99, 82, 100, 101, 102, 57, 103, 104, 105, 59, 142, 143, 144, 135, 136, 137] (by decide +kernel) (by decide +kernel)
set_option maxRecDepth 20000 in
theorem gX10_setMask_X1_maskOf : GoodIn wsX10_setMask (wsV RX10 100 RX1 yX1_maskOf wsX1_maskOf) := goodIn_app (goodIn_of _ (by decide +kernel)) ggX10_setMask_X1_maskOf
set_option maxRecDepth 20000 in
theorem ggX10_setMask_X1_mask : GoodIn wsX10_setMask wsX1_mask := goodIn_r _ [109, 82, 110, 111, 112, 57, 113, 104, 105, 59, 142, 143, 144, 135, 136, 137] (by decide +kernel) (by decide +kernel)
set_option maxRecDepth 20000 in
theorem gX10_setMask_X1_mask : GoodIn wsX10_setMask (wsV RX10 105 RX1 yX1_mask wsX1_mask) := goodIn_app (goodIn_of _ (by decide +kernel)) ggX10_setMask_X1_mask
theorem dX10_setMask_0 : decode cX10_setMask 0 = .ok (.iload_n 2, 1) := by decide +kernel
theorem dX10_setMask_1 : decode cX10_setMask 1 = .ok (.bipush 32, 2) := by decide +kernel
theorem dX10_setMask_3 : decode cX10_setMask 3 = .ok (.invokestatic 83, 3) := by decide +kernel
theorem dX10_setMask_6 : decode cX10_setMask 6 = .ok (.iload_n 1, 1) := by decide +kernel
theorem dX10_setMask_7 : decode cX10_setMask 7 = .ok (.iload_n 2, 1) := by decide +kernel
theorem dX10_setMask_8 : decode cX10_setMask 8 = .ok (.iconst 1, 1) := by decide +kernel
theorem dX10_setMask_9 : decode cX10_setMask 9 = .ok (.iadd, 1) := by decide +kernel
theorem dX10_setMask_10 : decode cX10_setMask 10 = .ok (.invokestatic 83, 3) := by decide +kernel
theorem dX10_setMask_13 : decode cX10_setMask 13 = .ok (.iload_n 3, 1) := by decide +kernel
theorem dX10_setMask_14 : decode cX10_setMask 14 = .ok (.iconst 0, 1) := by decide +kernel
theorem dX10_setMask_15 : decode cX10_setMask 15 = .ok (.bipush 100, 2) := by decide +kernel
theorem dX10_setMask_17 : decode cX10_setMask 17 = .ok (.invokestatic 54, 3) := by decide +kernel
theorem dX10_setMask_20 : decode cX10_setMask 20 = .ok (.aload_n 0, 1) := by decide +kernel
theorem dX10_setMask_21 : decode cX10_setMask 21 = .ok (.getfield 39, 3) := by decide +kernel
theorem dX10_setMask_24 : decode cX10_setMask 24 = .ok (.aload_n 0, 1) := by decide +kernel
theorem dX10_setMask_25 : decode cX10_setMask 25 = .ok (.getfield 32, 3) := by decide +kernel
theorem dX10_setMask_28 : decode cX10_setMask 28 = .ok (.invokevirtual 62, 3) := by decide +kernel
theorem dX10_setMask_31 : decode cX10_setMask 31 = .ok (.aload_n 0, 1) := by decide +kernel
theorem dX10_setMask_32 : decode cX10_setMask 32 = .ok (.getfield 32, 3) := by decide +kernel
theorem dX10_setMask_35 : decode cX10_setMask 35 = .ok (.getfield 96, 3) := by decide +kernel
theorem dX10_setMask_38 : decode cX10_setMask 38 = .ok (.iload_n 1, 1) := by decide +kernel
theorem dX10_setMask_39 : decode cX10_setMask 39 = .ok (.invokevirtual 100, 3) := by decide +kernel
theorem dX10_setMask_42 : decode cX10_setMask 42 = .ok (.istore 4, 2) := by decide +kernel
theorem dX10_setMask_44 : decode cX10_setMask 44 = .ok (.aload_n 0, 1) := by decide +kernel
theorem dX10_setMask_45 : decode cX10_setMask 45 = .ok (.getfield 32, 3) := by decide +kernel
theorem dX10_setMask_48 : decode cX10_setMask 48 = .ok (.getfield 96, 3) := by decide +kernel
theorem dX10_setMask_51 : decode cX10_setMask 51 = .ok (.iload_n 1, 1) := by decide +kernel
theorem dX10_setMask_52 : decode cX10_setMask 52 = .ok (.iload_n 2, 1) := by decide +kernel
theorem dX10_setMask_53 : decode cX10_setMask 53 = .ok (.iload_n 3, 1) := by decide +kernel
theorem dX10_setMask_54 : decode cX10_setMask 54 = .ok (.invokevirtual 105, 3) := by decide +kernel
theorem dX10_setMask_57 : decode cX10_setMask 57 = .ok (.iload 4, 2) := by decide +kernel
theorem dX10_setMask_59 : decode cX10_setMask 59 = .ok (.ireturn, 1) := by decide +kernel
set_option maxRecDepth 20000 in
theorem ggX10_setHops_X10_requireArgument : GoodIn wsX10_setHops wsX10_requireArgument := goodIn_ca (goodIn_r _ [6, 7, 8] (by decide +kernel) (by decide +kernel)) (goodIn_sub (fun _ h => List.mem_cons_of_mem _ (List.mem_append_right _ h)) (by decide +kernel))
set_option maxRecDepth 20000 in
theorem gX10_setHops_X10_requireArgument : GoodIn wsX10_setHops (va_wsS RX10 54 yX10_requireArgument wsX10_requireArgument) := goodIn_app (goodIn_of _ (by decide +kernel)) ggX10_setHops_X10_requireArgument
set_option maxRecDepth 20000 in
theorem ggX10_setHops_X3_save : GoodIn wsX10_setHops wsX3_save := goodIn_r _ [13, 14, 15, 16, 17, 18, 19, 20, 21, 22, 23, 12, 24, 25, 5, 26, 27, 28, 29, 30, 31, 32, 33, 34, 35, 36, 37, 38, 39, 40, 41, 42, 43, 44, 45, 46, 47, 48, 49, 50, 51, 52, 53, 54, 55, 56, 57, 58, 59, 60, 61, 62, 63, 64, 65, 66, 67, 68, 69, 70, 71, 72, 73, 74, 75, 76, 77, 78, 79, 80, 81, 82, 83, 84, 85, 86, 87, 88, 89, 106, 107, 108, 97, 98, 99, 100, 101, 102, 103, 104, 105, 109, 110, 111, 112, 113, 114, 115, 116, 117, 118, 119, 120, 121, 122, 123, 124] (by decide +kernel) (by decide +kernel)
set_option maxRecDepth 20000 in
theorem gX10_setHops_X3_save : GoodIn wsX10_setHops (wsV RX10 62 RX3 yX3_save wsX3_save) := goodIn_app (goodIn_of _ (by decide +kernel)) ggX10_setHops_X3_save
theorem dX10_setHops_0 : decode cX10_setHops 0 = .ok (.iload_n 1, 1) := by decide +kernel
theorem dX10_setHops_1 : decode cX10_setHops 1 = .ok (.iconst 1, 1) := by decide +kernel
theorem dX10_setHops_2 : decode cX10_setHops 2 = .ok (.sipush 1000, 3) := by decide +kernel
theorem dX10_setHops_5 : decode cX10_setHops 5 = .ok (.invokestatic 54, 3) := by decide +kernel
theorem dX10_setHops_8 : decode cX10_setHops 8 = .ok (.iload_n 2, 1) := by decide +kernel
theorem dX10_setHops_9 : decode cX10_setHops 9 = .ok (.iconst 0, 1) := by decide +kernel
theorem dX10_setHops_10 : decode cX10_setHops 10 = .ok (.bipush 100, 2) := by decide +kernel
theorem dX10_setHops_12 : decode cX10_setHops 12 = .ok (.invokestatic 54, 3) := by decide +kernel
theorem dX10_setHops_15 : decode cX10_setHops 15 = .ok (.aload_n 0, 1) := by decide +kernel
theorem dX10_setHops_16 : decode cX10_setHops 16 = .ok (.getfield 39, 3) := by decide +kernel
theorem dX10_setHops_19 : decode cX10_setHops 19 = .ok (.aload_n 0, 1) := by decide +kernel
theorem dX10_setHops_20 : decode cX10_setHops 20 = .ok (.getfield 32, 3) := by decide +kernel
theorem dX10_setHops_23 : decode cX10_setHops 23 = .ok (.invokevirtual 62, 3) := by decide +kernel
theorem dX10_setHops_26 : decode cX10_setHops 26 = .ok (.aload_n 0, 1) := by decide +kernel
theorem dX10_setHops_27 : decode cX10_setHops 27 = .ok (.getfield 32, 3) := by decide +kernel
theorem dX10_setHops_30 : decode cX10_setHops 30 = .ok (.getfield 108, 3) := by decide +kernel
theorem dX10_setHops_33 : decode cX10_setHops 33 = .ok (.istore_n 3, 1) := by decide +kernel
theorem dX10_setHops_34 : decode cX10_setHops 34 = .ok (.aload_n 0, 1) := by decide +kernel
theorem dX10_setHops_35 : decode cX10_setHops 35 = .ok (.getfield 32, 3) := by decide +kernel
theorem dX10_setHops_38 : decode cX10_setHops 38 = .ok (.iload_n 1, 1) := by decide +kernel
theorem dX10_setHops_39 : decode cX10_setHops 39 = .ok (.putfield 108, 3) := by decide +kernel
theorem dX10_setHops_42 : decode cX10_setHops 42 = .ok (.aload_n 0, 1) := by decide +kernel
theorem dX10_setHops_43 : decode cX10_setHops 43 = .ok (.getfield 32, 3) := by decide +kernel
theorem dX10_setHops_46 : decode cX10_setHops 46 = .ok (.iload_n 2, 1) := by decide +kernel
theorem dX10_setHops_47 : decode cX10_setHops 47 = .ok (.putfield 111, 3) := by decide +kernel
theorem dX10_setHops_50 : decode cX10_setHops 50 = .ok (.iload_n 3, 1) := by decide +kernel
theorem dX10_setHops_51 : decode cX10_setHops 51 = .ok (.ireturn, 1) := by decide +kernel
set_option maxRecDepth 20000 in
theorem ggX10_append_X10_requireArgument : GoodIn wsX10_append wsX10_requireArgument := goodIn_ca (goodIn_r _ [7, 8, 9] (by decide +kernel) (by decide +kernel)) (goodIn_sub (fun _ h => List.mem_cons_of_mem _ (List.mem_append_right _ h)) (by decide +kernel))
set_option maxRecDepth 20000 in
theorem gX10_append_X10_requireArgument : GoodIn wsX10_append (va_wsS RX10 54 yX10_requireArgument wsX10_requireArgument) := goodIn_app (goodIn_of _ (by decide +kernel)) ggX10_append_X10_requireArgument
set_option maxRecDepth 20000 in
theorem ggX10_append_X0_put : GoodIn wsX10_append wsX0_put := goodIn_r _ [14, 15, 16, 17, 6, 18, 26, 27] (by decide +kernel) (by decide +kernel)
set_option maxRecDepth 20000 in
theorem gX10_append_X0_put : GoodIn wsX10_append (wsV RX10 124 RX0 yX0_put wsX0_put) := goodIn_app (goodIn_of _ (by decide +kernel)) ggX10_append_X0_put
theorem dX10_append_0 : decode cX10_append 0 = .ok (.iload_n 1, 1) := by decide +kernel
theorem dX10_append_1 : decode cX10_append 1 = .ok (.iconst 0, 1) := by decide +kernel
theorem dX10_append_2 : decode cX10_append 2 = .ok (.bipush 127, 2) := by decide +kernel
theorem dX10_append_4 : decode cX10_append 4 = .ok (.invokestatic 54, 3) := by decide +kernel
theorem dX10_append_7 : decode cX10_append 7 = .ok (.aload_n 0, 1) := by decide +kernel
theorem dX10_append_8 : decode cX10_append 8 = .ok (.getfield 20, 3) := by decide +kernel
theorem dX10_append_11 : decode cX10_append 11 = .ok (.getfield 114, 3) := by decide +kernel
theorem dX10_append_14 : decode cX10_append 14 = .ok (.bipush 100, 2) := by decide +kernel
theorem dX10_append_16 : decode cX10_append 16 = .ok (.if_icmp .lt 13, 3) := by decide +kernel
theorem dX10_append_19 : decode cX10_append 19 = .ok (.new 117, 3) := by decide +kernel
theorem dX10_append_22 : decode cX10_append 22 = .ok (.dup, 1) := by decide +kernel
theorem dX10_append_23 : decode cX10_append 23 = .ok (.ldc 119, 2) := by decide +kernel
theorem dX10_append_25 : decode cX10_append 25 = .ok (.invokespecial 121, 3) := by decide +kernel
theorem dX10_append_28 : decode cX10_append 28 = .ok (.athrow, 1) := by decide +kernel
theorem dX10_append_29 : decode cX10_append 29 = .ok (.aload_n 0, 1) := by decide +kernel
theorem dX10_append_30 : decode cX10_append 30 = .ok (.getfield 20, 3) := by decide +kernel
theorem dX10_append_33 : decode cX10_append 33 = .ok (.iload_n 1, 1) := by decide +kernel
theorem dX10_append_34 : decode cX10_append 34 = .ok (.invokevirtual 124, 3) := by decide +kernel
theorem dX10_append_37 : decode cX10_append 37 = .ok (.aload_n 0, 1) := by decide +kernel
theorem dX10_append_38 : decode cX10_append 38 = .ok (.getfield 20, 3) := by decide +kernel
theorem dX10_append_41 : decode cX10_append 41 = .ok (.getfield 114, 3) := by decide +kernel
theorem dX10_append_44 : decode cX10_append 44 = .ok (.ireturn, 1) := by decide +kernel
theorem dX10_clearText_0 : decode cX10_clearText 0 = .ok (.aload_n 0, 1) := by decide +kernel
theorem dX10_clearText_1 : decode cX10_clearText 1 = .ok (.getfield 20, 3) := by decide +kernel
theorem dX10_clearText_4 : decode cX10_clearText 4 = .ok (.getfield 114, 3) := by decide +kernel
theorem dX10_clearText_7 : decode cX10_clearText 7 = .ok (.istore_n 1, 1) := by decide +kernel
theorem dX10_clearText_8 : decode cX10_clearText 8 = .ok (.aload_n 0, 1) := by decide +kernel
theorem dX10_clearText_9 : decode cX10_clearText 9 = .ok (.getfield 20, 3) := by decide +kernel
theorem dX10_clearText_12 : decode cX10_clearText 12 = .ok (.iconst 0, 1) := by decide +kernel
theorem dX10_clearText_13 : decode cX10_clearText 13 = .ok (.putfield 114, 3) := by decide +kernel
theorem dX10_clearText_16 : decode cX10_clearText 16 = .ok (.iload_n 1, 1) := by decide +kernel
theorem dX10_clearText_17 : decode cX10_clearText 17 = .ok (.ireturn, 1) := by decide +kernel
set_option maxRecDepth 20000 in
theorem ggX10_parsePlan_X6_parse : GoodIn wsX10_parsePlan wsX6_parse := goodIn_r _ [8, 9, 10, 11, 12, 13, 14, 15, 16, 17, 18, 19, 20, 21, 22, 23, 7, 24, 25, 26, 27, 28, 29, 30, 31, 32, 33, 34, 35, 36, 37, 38, 39, 40, 41, 42, 43, 44, 45, 46, 47, 48, 49, 50, 51, 52, 53, 54, 55, 56, 57, 58, 59, 60, 61, 62, 63, 64, 65, 66, 67, 68, 69, 70, 71, 161, 162, 163, 164, 169, 170, 165, 166, 167, 168, 171, 172, 173] (by decide +kernel) (by decide +kernel)
set_option maxRecDepth 20000 in
theorem gX10_parsePlan_X6_parse : GoodIn wsX10_parsePlan (wsV RX10 126 RX6 yX6_parse wsX6_parse) := goodIn_app (goodIn_of _ (by decide +kernel)) ggX10_parsePlan_X6_parse
set_option maxRecDepth 20000 in
theorem ggX10_parsePlan_X3_save : GoodIn wsX10_parsePlan wsX3_save := goodIn_r _ [76, 77, 78, 79, 80, 81, 82, 83, 84, 85, 86, 75, 87, 32, 33, 34, 88, 89, 90, 91, 92, 93, 94, 95, 96, 97, 98, 99, 100, 101, 102, 103, 104, 105, 106, 107, 108, 109, 110, 111, 67, 112, 71, 113, 114, 115, 116, 117, 118, 119, 120, 16, 121, 63, 18, 19, 20, 122, 123, 124, 125, 126, 127, 128, 129, 130, 131, 132, 133, 134, 135, 136, 137, 138, 139, 140, 141, 142, 143, 174, 175, 176, 152, 153, 154, 155, 156, 157, 158, 159, 160, 177, 178, 171, 172, 173, 165, 166, 167, 168, 179, 180, 181, 182, 183, 184, 185] (by decide +kernel) (by decide +kernel)
set_option maxRecDepth 20000 in
theorem gX10_parsePlan_X3_save : GoodIn wsX10_parsePlan (wsV RX10 62 RX3 yX3_save wsX3_save) := goodIn_app (goodIn_of _ (by decide +kernel)) ggX10_parsePlan_X3_save
set_option maxRecDepth 20000 in
theorem ggX10_parsePlan_X5_copyFrom : GoodIn wsX10_parsePlan wsX5_copyFrom := goodIn_r _ [121, 63, 18, 19, 20, 122, 110, 111, 67, 112, 71, 113, 81, 82, 83, 114, 115, 116, 117, 165, 166, 167, 168, 171, 172, 173] (by decide +kernel) (by decide +kernel)
set_option maxRecDepth 20000 in
theorem gX10_parsePlan_X5_copyFrom : GoodIn wsX10_parsePlan (wsV RX10 137 RX5 yX5_copyFrom wsX5_copyFrom) := goodIn_app (goodIn_of _ (by decide +kernel)) ggX10_parsePlan_X5_copyFrom
theorem dX10_parsePlan_0 : decode cX10_parsePlan 0 = .ok (.aload_n 0, 1) := by decide +kernel
theorem dX10_parsePlan_1 : decode cX10_parsePlan 1 = .ok (.getfield 10, 3) := by decide +kernel
theorem dX10_parsePlan_4 : decode cX10_parsePlan 4 = .ok (.invokevirtual 126, 3) := by decide +kernel
theorem dX10_parsePlan_7 : decode cX10_parsePlan 7 = .ok (.istore_n 1, 1) := by decide +kernel
theorem dX10_parsePlan_8 : decode cX10_parsePlan 8 = .ok (.iload_n 1, 1) := by decide +kernel
theorem dX10_parsePlan_9 : decode cX10_parsePlan 9 = .ok (.iconst (-1), 1) := by decide +kernel
theorem dX10_parsePlan_10 : decode cX10_parsePlan 10 = .ok (.if_icmp .eq 8, 3) := by decide +kernel
theorem dX10_parsePlan_13 : decode cX10_parsePlan 13 = .ok (.bipush (-10), 2) := by decide +kernel
theorem dX10_parsePlan_15 : decode cX10_parsePlan 15 = .ok (.iload_n 1, 1) := by decide +kernel
theorem dX10_parsePlan_16 : decode cX10_parsePlan 16 = .ok (.isub, 1) := by decide +kernel
theorem dX10_parsePlan_17 : decode cX10_parsePlan 17 = .ok (.ireturn, 1) := by decide +kernel
theorem dX10_parsePlan_18 : decode cX10_parsePlan 18 = .ok (.aload_n 0, 1) := by decide +kernel
theorem dX10_parsePlan_19 : decode cX10_parsePlan 19 = .ok (.getfield 39, 3) := by decide +kernel
theorem dX10_parsePlan_22 : decode cX10_parsePlan 22 = .ok (.aload_n 0, 1) := by decide +kernel
theorem dX10_parsePlan_23 : decode cX10_parsePlan 23 = .ok (.getfield 32, 3) := by decide +kernel
theorem dX10_parsePlan_26 : decode cX10_parsePlan 26 = .ok (.invokevirtual 62, 3) := by decide +kernel
theorem dX10_parsePlan_29 : decode cX10_parsePlan 29 = .ok (.aload_n 0, 1) := by decide +kernel
theorem dX10_parsePlan_30 : decode cX10_parsePlan 30 = .ok (.getfield 32, 3) := by decide +kernel
theorem dX10_parsePlan_33 : decode cX10_parsePlan 33 = .ok (.getfield 130, 3) := by decide +kernel
theorem dX10_parsePlan_36 : decode cX10_parsePlan 36 = .ok (.aload_n 0, 1) := by decide +kernel
theorem dX10_parsePlan_37 : decode cX10_parsePlan 37 = .ok (.getfield 10, 3) := by decide +kernel
theorem dX10_parsePlan_40 : decode cX10_parsePlan 40 = .ok (.getfield 134, 3) := by decide +kernel
theorem dX10_parsePlan_43 : decode cX10_parsePlan 43 = .ok (.invokevirtual 137, 3) := by decide +kernel
theorem dX10_parsePlan_46 : decode cX10_parsePlan 46 = .ok (.aload_n 0, 1) := by decide +kernel
theorem dX10_parsePlan_47 : decode cX10_parsePlan 47 = .ok (.getfield 32, 3) := by decide +kernel
theorem dX10_parsePlan_50 : decode cX10_parsePlan 50 = .ok (.getfield 130, 3) := by decide +kernel
theorem dX10_parsePlan_53 : decode cX10_parsePlan 53 = .ok (.getfield 143, 3) := by decide +kernel
theorem dX10_parsePlan_56 : decode cX10_parsePlan 56 = .ok (.ireturn, 1) := by decide +kernel
theorem dX10_steps_0 : decode cX10_steps 0 = .ok (.aload_n 0, 1) := by decide +kernel
theorem dX10_steps_1 : decode cX10_steps 1 = .ok (.getfield 32, 3) := by decide +kernel
theorem dX10_steps_4 : decode cX10_steps 4 = .ok (.getfield 130, 3) := by decide +kernel
theorem dX10_steps_7 : decode cX10_steps 7 = .ok (.getfield 143, 3) := by decide +kernel
theorem dX10_steps_10 : decode cX10_steps 10 = .ok (.ireturn, 1) := by decide +kernel
set_option maxRecDepth 20000 in
theorem ggX10_step_X10_requireIndex : GoodIn wsX10_step wsX10_requireIndex := goodIn_ca (goodIn_r _ [5, 6, 7, 8, 9, 4, 10] (by decide +kernel) (by decide +kernel)) (goodIn_sub (fun _ h => List.mem_cons_of_mem _ (List.mem_append_left _ (List.mem_append_right _ h))) (by decide +kernel))
set_option maxRecDepth 20000 in
theorem gX10_step_X10_requireIndex : GoodIn wsX10_step (va_wsS RX10 83 yX10_requireIndex wsX10_requireIndex) := goodIn_app (goodIn_of _ (by decide +kernel)) ggX10_step_X10_requireIndex
set_option maxRecDepth 20000 in
theorem ggX10_step_X10_requireArgument : GoodIn wsX10_step wsX10_requireArgument := goodIn_ca (goodIn_r _ [13, 14, 15] (by decide +kernel) (by decide +kernel)) (goodIn_sub (fun _ h => List.mem_cons_of_mem _ (List.mem_append_right _ h)) (by decide +kernel))
set_option maxRecDepth 20000 in
theorem gX10_step_X10_requireArgument : GoodIn wsX10_step (va_wsS RX10 54 yX10_requireArgument wsX10_requireArgument) := goodIn_app (goodIn_of _ (by decide +kernel)) ggX10_step_X10_requireArgument
set_option maxRecDepth 20000 in
theorem ggX10_step_X9_get : GoodIn wsX10_step wsX9_get := goodIn_r _ [20, 21, 22, 23, 44, 45, 46] (by decide +kernel) (by decide +kernel)
set_option maxRecDepth 20000 in
theorem gX10_step_X9_get : GoodIn wsX10_step (wsV RX10 148 RX9 yX9_get wsX9_get) := goodIn_app (goodIn_of _ (by decide +kernel)) ggX10_step_X9_get
theorem dX10_step_0 : decode cX10_step 0 = .ok (.iload_n 1, 1) := by decide +kernel
theorem dX10_step_1 : decode cX10_step 1 = .ok (.aload_n 0, 1) := by decide +kernel
theorem dX10_step_2 : decode cX10_step 2 = .ok (.getfield 32, 3) := by decide +kernel
theorem dX10_step_5 : decode cX10_step 5 = .ok (.getfield 130, 3) := by decide +kernel
theorem dX10_step_8 : decode cX10_step 8 = .ok (.getfield 143, 3) := by decide +kernel
theorem dX10_step_11 : decode cX10_step 11 = .ok (.invokestatic 83, 3) := by decide +kernel
theorem dX10_step_14 : decode cX10_step 14 = .ok (.iload_n 2, 1) := by decide +kernel
theorem dX10_step_15 : decode cX10_step 15 = .ok (.iconst 0, 1) := by decide +kernel
theorem dX10_step_16 : decode cX10_step 16 = .ok (.iconst 2, 1) := by decide +kernel
theorem dX10_step_17 : decode cX10_step 17 = .ok (.invokestatic 54, 3) := by decide +kernel
theorem dX10_step_20 : decode cX10_step 20 = .ok (.aload_n 0, 1) := by decide +kernel
theorem dX10_step_21 : decode cX10_step 21 = .ok (.getfield 32, 3) := by decide +kernel
theorem dX10_step_24 : decode cX10_step 24 = .ok (.getfield 130, 3) := by decide +kernel
theorem dX10_step_27 : decode cX10_step 27 = .ok (.getfield 144, 3) := by decide +kernel
theorem dX10_step_30 : decode cX10_step 30 = .ok (.iload_n 1, 1) := by decide +kernel
theorem dX10_step_31 : decode cX10_step 31 = .ok (.iload_n 2, 1) := by decide +kernel
theorem dX10_step_32 : decode cX10_step 32 = .ok (.invokevirtual 148, 3) := by decide +kernel
theorem dX10_step_35 : decode cX10_step 35 = .ok (.ireturn, 1) := by decide +kernel
set_option maxRecDepth 20000 in
theorem ggX10_planByte_X5_write : GoodIn wsX10_planByte wsX5_write := goodIn_r _ [9, 10, 11, 12, 13, 14, 15, 16, 17, 18, 19, 20, 21, 22, 23, 24, 25, 26, 27, 28, 29, 30, 31, 32, 33, 34, 55, 56, 57, 58, 59, 60, 61, 62, 63] (by decide +kernel) (by decide +kernel)
set_option maxRecDepth 20000 in
theorem gX10_planByte_X5_write : GoodIn wsX10_planByte (wsV RX10 159 RX5 yX5_write wsX5_write) := goodIn_app (goodIn_of _ (by decide +kernel)) ggX10_planByte_X5_write
set_option maxRecDepth 20000 in
theorem ggX10_planByte_X0_byteAt : GoodIn wsX10_planByte wsX0_byteAt := goodIn_r _ [38, 29, 30, 31, 32, 33, 55, 56] (by decide +kernel) (by decide +kernel)
set_option maxRecDepth 20000 in
theorem gX10_planByte_X0_byteAt : GoodIn wsX10_planByte (wsV RX10 163 RX0 yX0_byteAt wsX0_byteAt) := goodIn_app (goodIn_of _ (by decide +kernel)) ggX10_planByte_X0_byteAt
theorem dX10_planByte_0 : decode cX10_planByte 0 = .ok (.iload_n 1, 1) := by decide +kernel
theorem dX10_planByte_1 : decode cX10_planByte 1 = .ok (.ifCond .ge 13, 3) := by decide +kernel
theorem dX10_planByte_4 : decode cX10_planByte 4 = .ok (.new 154, 3) := by decide +kernel
theorem dX10_planByte_7 : decode cX10_planByte 7 = .ok (.dup, 1) := by decide +kernel
theorem dX10_planByte_8 : decode cX10_planByte 8 = .ok (.ldc 156, 2) := by decide +kernel
theorem dX10_planByte_10 : decode cX10_planByte 10 = .ok (.invokespecial 158, 3) := by decide +kernel
theorem dX10_planByte_13 : decode cX10_planByte 13 = .ok (.athrow, 1) := by decide +kernel
theorem dX10_planByte_14 : decode cX10_planByte 14 = .ok (.aload_n 0, 1) := by decide +kernel
theorem dX10_planByte_15 : decode cX10_planByte 15 = .ok (.getfield 32, 3) := by decide +kernel
theorem dX10_planByte_18 : decode cX10_planByte 18 = .ok (.getfield 130, 3) := by decide +kernel
theorem dX10_planByte_21 : decode cX10_planByte 21 = .ok (.aload_n 0, 1) := by decide +kernel
theorem dX10_planByte_22 : decode cX10_planByte 22 = .ok (.getfield 26, 3) := by decide +kernel
theorem dX10_planByte_25 : decode cX10_planByte 25 = .ok (.invokevirtual 159, 3) := by decide +kernel
theorem dX10_planByte_28 : decode cX10_planByte 28 = .ok (.aload_n 0, 1) := by decide +kernel
theorem dX10_planByte_29 : decode cX10_planByte 29 = .ok (.getfield 26, 3) := by decide +kernel
theorem dX10_planByte_32 : decode cX10_planByte 32 = .ok (.iload_n 1, 1) := by decide +kernel
theorem dX10_planByte_33 : decode cX10_planByte 33 = .ok (.invokevirtual 163, 3) := by decide +kernel
theorem dX10_planByte_36 : decode cX10_planByte 36 = .ok (.ireturn, 1) := by decide +kernel
set_option maxRecDepth 20000 in
theorem ggX10_revisit_X10_requireIndex : GoodIn wsX10_revisit wsX10_requireIndex := goodIn_ca (goodIn_r _ [5, 6, 7, 8, 9, 4, 10] (by decide +kernel) (by decide +kernel)) (goodIn_sub (fun _ h => List.mem_cons_of_mem _ (List.mem_append_right _ h)) (by decide +kernel))
set_option maxRecDepth 20000 in
theorem gX10_revisit_X10_requireIndex : GoodIn wsX10_revisit (va_wsS RX10 83 yX10_requireIndex wsX10_requireIndex) := goodIn_app (goodIn_of _ (by decide +kernel)) ggX10_revisit_X10_requireIndex
set_option maxRecDepth 20000 in
theorem ggX10_revisit_X5_revisitTime : GoodIn wsX10_revisit wsX5_revisitTime := goodIn_r _ [15, 16, 17, 18, 19, 20, 21, 22, 23, 24, 14, 25, 26, 27, 28, 29, 30, 31, 32, 33, 50, 51, 52, 53, 54, 55, 56] (by decide +kernel) (by decide +kernel)
set_option maxRecDepth 20000 in
theorem gX10_revisit_X5_revisitTime : GoodIn wsX10_revisit (wsV RX10 166 RX5 yX5_revisitTime wsX5_revisitTime) := goodIn_app (goodIn_of _ (by decide +kernel)) ggX10_revisit_X5_revisitTime
theorem dX10_revisit_0 : decode cX10_revisit 0 = .ok (.iload_n 1, 1) := by decide +kernel
theorem dX10_revisit_1 : decode cX10_revisit 1 = .ok (.bipush 32, 2) := by decide +kernel
theorem dX10_revisit_3 : decode cX10_revisit 3 = .ok (.invokestatic 83, 3) := by decide +kernel
theorem dX10_revisit_6 : decode cX10_revisit 6 = .ok (.aload_n 0, 1) := by decide +kernel
theorem dX10_revisit_7 : decode cX10_revisit 7 = .ok (.getfield 32, 3) := by decide +kernel
theorem dX10_revisit_10 : decode cX10_revisit 10 = .ok (.getfield 130, 3) := by decide +kernel
theorem dX10_revisit_13 : decode cX10_revisit 13 = .ok (.iload_n 1, 1) := by decide +kernel
theorem dX10_revisit_14 : decode cX10_revisit 14 = .ok (.invokevirtual 166, 3) := by decide +kernel
theorem dX10_revisit_17 : decode cX10_revisit 17 = .ok (.ireturn, 1) := by decide +kernel
set_option maxRecDepth 20000 in
theorem ggX10_run_X10_requireArgument : GoodIn wsX10_run wsX10_requireArgument := goodIn_ca (goodIn_r _ [7, 8, 9] (by decide +kernel) (by decide +kernel)) (goodIn_sub (fun _ h => List.mem_cons_of_mem _ (List.mem_append_right _ h)) (by decide +kernel))
set_option maxRecDepth 20000 in
theorem gX10_run_X10_requireArgument : GoodIn wsX10_run (va_wsS RX10 54 yX10_requireArgument wsX10_requireArgument) := goodIn_app (goodIn_of _ (by decide +kernel)) ggX10_run_X10_requireArgument
set_option maxRecDepth 20000 in
theorem ggX10_run_X3_save : GoodIn wsX10_run wsX3_save := goodIn_r _ [14, 15, 16, 17, 18, 19, 20, 21, 22, 23, 24, 13, 25, 26, 6, 27, 28, 29, 30, 31, 32, 33, 34, 35, 36, 37, 38, 39, 40, 41, 42, 43, 44, 45, 46, 47, 48, 49, 50, 51, 52, 53, 54, 55, 56, 57, 58, 59, 60, 61, 62, 63, 64, 65, 66, 67, 68, 69, 70, 71, 72, 73, 74, 75, 76, 77, 78, 79, 80, 81, 82, 83, 84, 85, 86, 87, 88, 89, 90, 191, 192, 193, 182, 183, 184, 185, 186, 187, 188, 189, 190, 194, 195, 196, 197, 198, 199, 200, 201, 202, 203, 204, 205, 206, 207, 208, 209] (by decide +kernel) (by decide +kernel)
set_option maxRecDepth 20000 in
theorem gX10_run_X3_save : GoodIn wsX10_run (wsV RX10 62 RX3 yX3_save wsX3_save) := goodIn_app (goodIn_of _ (by decide +kernel)) ggX10_run_X3_save
set_option maxRecDepth 20000 in
theorem ggX10_run_X8_passTick : GoodIn wsX10_run wsX8_passTick := goodIn_r _ [94, 37, 34, 95, 96, 97, 63, 98, 66, 67, 99, 100, 101, 31, 102, 38, 33, 103, 104, 105, 106, 107, 108, 109, 45, 110, 48, 47, 111, 112, 113, 52, 114, 115, 116, 54, 117, 118, 119, 120, 121, 122, 123, 124, 26, 6, 27, 125, 126, 127, 128, 65, 129, 130, 131, 132, 133, 39, 35, 36, 134, 135, 136, 73, 137, 75, 76, 138, 139, 140, 141, 142, 143, 144, 145, 146, 147, 148, 149, 150, 151, 152, 77, 153, 154, 155, 82, 156, 88, 84, 157, 158, 159, 160, 161, 85, 89, 87, 57, 58, 59, 162, 163, 164, 165, 166, 167, 168, 169, 170, 171, 172, 173, 174, 68, 182, 183, 184, 185, 186, 187, 188, 189, 190, 199, 200, 201, 202, 194, 195, 196, 197, 198, 203, 204, 205, 206, 207, 208, 209] (by decide +kernel) (by decide +kernel)
set_option maxRecDepth 20000 in
theorem gX10_run_X8_passTick : GoodIn wsX10_run (wsV RX10 169 RX8 yX8_passTick wsX8_passTick) := goodIn_app (goodIn_of _ (by decide +kernel)) ggX10_run_X8_passTick
theorem dX10_run_0 : decode cX10_run 0 = .ok (.iload_n 1, 1) := by decide +kernel
theorem dX10_run_1 : decode cX10_run 1 = .ok (.iconst 0, 1) := by decide +kernel
theorem dX10_run_2 : decode cX10_run 2 = .ok (.sipush 2000, 3) := by decide +kernel
theorem dX10_run_5 : decode cX10_run 5 = .ok (.invokestatic 54, 3) := by decide +kernel
theorem dX10_run_8 : decode cX10_run 8 = .ok (.aload_n 0, 1) := by decide +kernel
theorem dX10_run_9 : decode cX10_run 9 = .ok (.getfield 39, 3) := by decide +kernel
theorem dX10_run_12 : decode cX10_run 12 = .ok (.aload_n 0, 1) := by decide +kernel
theorem dX10_run_13 : decode cX10_run 13 = .ok (.getfield 32, 3) := by decide +kernel
theorem dX10_run_16 : decode cX10_run 16 = .ok (.invokevirtual 62, 3) := by decide +kernel
theorem dX10_run_19 : decode cX10_run 19 = .ok (.iconst 0, 1) := by decide +kernel
theorem dX10_run_20 : decode cX10_run 20 = .ok (.istore_n 2, 1) := by decide +kernel
theorem dX10_run_21 : decode cX10_run 21 = .ok (.iload_n 2, 1) := by decide +kernel
theorem dX10_run_22 : decode cX10_run 22 = .ok (.iload_n 1, 1) := by decide +kernel
theorem dX10_run_23 : decode cX10_run 23 = .ok (.if_icmp .ge 20, 3) := by decide +kernel
theorem dX10_run_26 : decode cX10_run 26 = .ok (.aload_n 0, 1) := by decide +kernel
theorem dX10_run_27 : decode cX10_run 27 = .ok (.getfield 32, 3) := by decide +kernel
theorem dX10_run_30 : decode cX10_run 30 = .ok (.aload_n 0, 1) := by decide +kernel
theorem dX10_run_31 : decode cX10_run 31 = .ok (.getfield 50, 3) := by decide +kernel
theorem dX10_run_34 : decode cX10_run 34 = .ok (.invokevirtual 169, 3) := by decide +kernel
theorem dX10_run_37 : decode cX10_run 37 = .ok (.iinc 2 1, 3) := by decide +kernel
theorem dX10_run_40 : decode cX10_run 40 = .ok (.goto (-19), 3) := by decide +kernel
theorem dX10_run_43 : decode cX10_run 43 = .ok (.aload_n 0, 1) := by decide +kernel
theorem dX10_run_44 : decode cX10_run 44 = .ok (.getfield 32, 3) := by decide +kernel
theorem dX10_run_47 : decode cX10_run 47 = .ok (.getfield 173, 3) := by decide +kernel
theorem dX10_run_50 : decode cX10_run 50 = .ok (.ireturn, 1) := by decide +kernel
set_option maxRecDepth 20000 in
theorem ggX10_presentStep_X5_nextStep : GoodIn wsX10_presentStep wsX5_nextStep := goodIn_r _ [6, 7, 8, 25, 26, 27, 28] (by decide +kernel) (by decide +kernel)
set_option maxRecDepth 20000 in
theorem gX10_presentStep_X5_nextStep : GoodIn wsX10_presentStep (wsV RX10 176 RX5 yX5_nextStep wsX5_nextStep) := goodIn_app (goodIn_of _ (by decide +kernel)) ggX10_presentStep_X5_nextStep
theorem dX10_presentStep_0 : decode cX10_presentStep 0 = .ok (.aload_n 0, 1) := by decide +kernel
theorem dX10_presentStep_1 : decode cX10_presentStep 1 = .ok (.getfield 32, 3) := by decide +kernel
theorem dX10_presentStep_4 : decode cX10_presentStep 4 = .ok (.getfield 130, 3) := by decide +kernel
theorem dX10_presentStep_7 : decode cX10_presentStep 7 = .ok (.invokevirtual 176, 3) := by decide +kernel
theorem dX10_presentStep_10 : decode cX10_presentStep 10 = .ok (.ireturn, 1) := by decide +kernel
set_option maxRecDepth 20000 in
theorem ggX10_level_X10_requireIndex : GoodIn wsX10_level wsX10_requireIndex := goodIn_ca (goodIn_r _ [6, 7, 8, 9, 10, 5, 11] (by decide +kernel) (by decide +kernel)) (goodIn_sub (fun _ h => List.mem_cons_of_mem _ (List.mem_append_right _ h)) (by decide +kernel))
set_option maxRecDepth 20000 in
theorem gX10_level_X10_requireIndex : GoodIn wsX10_level (va_wsS RX10 83 yX10_requireIndex wsX10_requireIndex) := goodIn_app (goodIn_of _ (by decide +kernel)) ggX10_level_X10_requireIndex
set_option maxRecDepth 20000 in
theorem ggX10_level_X8_fillLevels : GoodIn wsX10_level wsX8_fillLevels := goodIn_r _ [16, 17, 18, 19, 20, 21, 22, 23, 24, 25, 26, 27, 28, 29, 30, 31, 32, 33, 34, 35, 36, 37, 38, 39, 40, 41, 42, 43, 44, 45, 46, 10, 5, 11, 54, 55, 56, 57, 58, 59, 60, 61, 62, 63, 64, 65, 66, 67] (by decide +kernel) (by decide +kernel)
set_option maxRecDepth 20000 in
theorem gX10_level_X8_fillLevels : GoodIn wsX10_level (wsV RX10 179 RX8 yX8_fillLevels wsX8_fillLevels) := goodIn_app (goodIn_of _ (by decide +kernel)) ggX10_level_X8_fillLevels
theorem dX10_level_0 : decode cX10_level 0 = .ok (.iload_n 1, 1) := by decide +kernel
theorem dX10_level_1 : decode cX10_level 1 = .ok (.bipush 32, 2) := by decide +kernel
theorem dX10_level_3 : decode cX10_level 3 = .ok (.invokestatic 83, 3) := by decide +kernel
theorem dX10_level_6 : decode cX10_level 6 = .ok (.aload_n 0, 1) := by decide +kernel
theorem dX10_level_7 : decode cX10_level 7 = .ok (.getfield 32, 3) := by decide +kernel
theorem dX10_level_10 : decode cX10_level 10 = .ok (.aload_n 0, 1) := by decide +kernel
theorem dX10_level_11 : decode cX10_level 11 = .ok (.getfield 50, 3) := by decide +kernel
theorem dX10_level_14 : decode cX10_level 14 = .ok (.invokevirtual 179, 3) := by decide +kernel
theorem dX10_level_17 : decode cX10_level 17 = .ok (.iload_n 1, 1) := by decide +kernel
theorem dX10_level_18 : decode cX10_level 18 = .ok (.aload_n 0, 1) := by decide +kernel
theorem dX10_level_19 : decode cX10_level 19 = .ok (.getfield 50, 3) := by decide +kernel
theorem dX10_level_22 : decode cX10_level 22 = .ok (.arraylength, 1) := by decide +kernel
theorem dX10_level_23 : decode cX10_level 23 = .ok (.if_icmp .ge 12, 3) := by decide +kernel
theorem dX10_level_26 : decode cX10_level 26 = .ok (.aload_n 0, 1) := by decide +kernel
theorem dX10_level_27 : decode cX10_level 27 = .ok (.getfield 50, 3) := by decide +kernel
theorem dX10_level_30 : decode cX10_level 30 = .ok (.iload_n 1, 1) := by decide +kernel
theorem dX10_level_31 : decode cX10_level 31 = .ok (.iaload, 1) := by decide +kernel
theorem dX10_level_32 : decode cX10_level 32 = .ok (.goto 4, 3) := by decide +kernel
theorem dX10_level_35 : decode cX10_level 35 = .ok (.iconst (-1), 1) := by decide +kernel
theorem dX10_level_36 : decode cX10_level 36 = .ok (.ireturn, 1) := by decide +kernel
set_option maxRecDepth 20000 in
theorem ggX10_detector_X10_requireIndex : GoodIn wsX10_detector wsX10_requireIndex := goodIn_ca (goodIn_r _ [5, 6, 7, 8, 9, 4, 10] (by decide +kernel) (by decide +kernel)) (goodIn_sub (fun _ h => List.mem_cons_of_mem _ (List.mem_append_left _ (List.mem_append_right _ h))) (by decide +kernel))
set_option maxRecDepth 20000 in
theorem gX10_detector_X10_requireIndex : GoodIn wsX10_detector (va_wsS RX10 83 yX10_requireIndex wsX10_requireIndex) := goodIn_app (goodIn_of _ (by decide +kernel)) ggX10_detector_X10_requireIndex
set_option maxRecDepth 20000 in
theorem ggX10_detector_X10_requireArgument : GoodIn wsX10_detector wsX10_requireArgument := goodIn_ca (goodIn_r _ [13, 14, 15] (by decide +kernel) (by decide +kernel)) (goodIn_sub (fun _ h => List.mem_cons_of_mem _ (List.mem_append_right _ h)) (by decide +kernel))
set_option maxRecDepth 20000 in
theorem gX10_detector_X10_requireArgument : GoodIn wsX10_detector (va_wsS RX10 54 yX10_requireArgument wsX10_requireArgument) := goodIn_app (goodIn_of _ (by decide +kernel)) ggX10_detector_X10_requireArgument
set_option maxRecDepth 20000 in
theorem ggX10_detector_X9_get : GoodIn wsX10_detector wsX9_get := goodIn_r _ [20, 21, 22, 23, 43, 44, 45] (by decide +kernel) (by decide +kernel)
set_option maxRecDepth 20000 in
theorem gX10_detector_X9_get : GoodIn wsX10_detector (wsV RX10 148 RX9 yX9_get wsX9_get) := goodIn_app (goodIn_of _ (by decide +kernel)) ggX10_detector_X9_get
theorem dX10_detector_0 : decode cX10_detector 0 = .ok (.iload_n 1, 1) := by decide +kernel
theorem dX10_detector_1 : decode cX10_detector 1 = .ok (.bipush 32, 2) := by decide +kernel
theorem dX10_detector_3 : decode cX10_detector 3 = .ok (.invokestatic 83, 3) := by decide +kernel
theorem dX10_detector_6 : decode cX10_detector 6 = .ok (.iload_n 2, 1) := by decide +kernel
theorem dX10_detector_7 : decode cX10_detector 7 = .ok (.iconst 0, 1) := by decide +kernel
theorem dX10_detector_8 : decode cX10_detector 8 = .ok (.iconst 3, 1) := by decide +kernel
theorem dX10_detector_9 : decode cX10_detector 9 = .ok (.invokestatic 54, 3) := by decide +kernel
theorem dX10_detector_12 : decode cX10_detector 12 = .ok (.aload_n 0, 1) := by decide +kernel
theorem dX10_detector_13 : decode cX10_detector 13 = .ok (.getfield 32, 3) := by decide +kernel
theorem dX10_detector_16 : decode cX10_detector 16 = .ok (.getfield 96, 3) := by decide +kernel
theorem dX10_detector_19 : decode cX10_detector 19 = .ok (.getfield 182, 3) := by decide +kernel
theorem dX10_detector_22 : decode cX10_detector 22 = .ok (.iload_n 1, 1) := by decide +kernel
theorem dX10_detector_23 : decode cX10_detector 23 = .ok (.iload_n 2, 1) := by decide +kernel
theorem dX10_detector_24 : decode cX10_detector 24 = .ok (.invokevirtual 148, 3) := by decide +kernel
theorem dX10_detector_27 : decode cX10_detector 27 = .ok (.ireturn, 1) := by decide +kernel
set_option maxRecDepth 20000 in
theorem ggX10_average_X10_requireIndex : GoodIn wsX10_average wsX10_requireIndex := goodIn_ca (goodIn_r _ [5, 6, 7, 8, 9, 4, 10] (by decide +kernel) (by decide +kernel)) (goodIn_sub (fun _ h => List.mem_cons_of_mem _ (List.mem_append_right _ h)) (by decide +kernel))
set_option maxRecDepth 20000 in
theorem gX10_average_X10_requireIndex : GoodIn wsX10_average (va_wsS RX10 83 yX10_requireIndex wsX10_requireIndex) := goodIn_app (goodIn_of _ (by decide +kernel)) ggX10_average_X10_requireIndex
set_option maxRecDepth 20000 in
theorem ggX10_average_X1_mean : GoodIn wsX10_average wsX1_mean := goodIn_r _ [15, 16, 17, 18, 19, 20, 21, 22, 23, 24, 25, 26, 27, 28, 29, 46, 47, 48, 49, 50, 51] (by decide +kernel) (by decide +kernel)
set_option maxRecDepth 20000 in
theorem gX10_average_X1_mean : GoodIn wsX10_average (wsV RX10 183 RX1 yX1_mean wsX1_mean) := goodIn_app (goodIn_of _ (by decide +kernel)) ggX10_average_X1_mean
theorem dX10_average_0 : decode cX10_average 0 = .ok (.iload_n 1, 1) := by decide +kernel
theorem dX10_average_1 : decode cX10_average 1 = .ok (.bipush 32, 2) := by decide +kernel
theorem dX10_average_3 : decode cX10_average 3 = .ok (.invokestatic 83, 3) := by decide +kernel
theorem dX10_average_6 : decode cX10_average 6 = .ok (.aload_n 0, 1) := by decide +kernel
theorem dX10_average_7 : decode cX10_average 7 = .ok (.getfield 32, 3) := by decide +kernel
theorem dX10_average_10 : decode cX10_average 10 = .ok (.getfield 96, 3) := by decide +kernel
theorem dX10_average_13 : decode cX10_average 13 = .ok (.iload_n 1, 1) := by decide +kernel
theorem dX10_average_14 : decode cX10_average 14 = .ok (.invokevirtual 183, 3) := by decide +kernel
theorem dX10_average_17 : decode cX10_average 17 = .ok (.ireturn, 1) := by decide +kernel
set_option maxRecDepth 20000 in
theorem ggX10_occupancy_X10_requireIndex : GoodIn wsX10_occupancy wsX10_requireIndex := goodIn_ca (goodIn_r _ [5, 6, 7, 8, 9, 4, 10] (by decide +kernel) (by decide +kernel)) (goodIn_sub (fun _ h => List.mem_cons_of_mem _ (List.mem_append_right _ h)) (by decide +kernel))
set_option maxRecDepth 20000 in
theorem gX10_occupancy_X10_requireIndex : GoodIn wsX10_occupancy (va_wsS RX10 83 yX10_requireIndex wsX10_requireIndex) := goodIn_app (goodIn_of _ (by decide +kernel)) ggX10_occupancy_X10_requireIndex
set_option maxRecDepth 20000 in
theorem ggX10_occupancy_X9_get : GoodIn wsX10_occupancy wsX9_get := goodIn_r _ [15, 16, 17, 18, 38, 39, 40] (by decide +kernel) (by decide +kernel)
set_option maxRecDepth 20000 in
theorem gX10_occupancy_X9_get : GoodIn wsX10_occupancy (wsV RX10 148 RX9 yX9_get wsX9_get) := goodIn_app (goodIn_of _ (by decide +kernel)) ggX10_occupancy_X9_get
theorem dX10_occupancy_0 : decode cX10_occupancy 0 = .ok (.iload_n 1, 1) := by decide +kernel
theorem dX10_occupancy_1 : decode cX10_occupancy 1 = .ok (.bipush 32, 2) := by decide +kernel
theorem dX10_occupancy_3 : decode cX10_occupancy 3 = .ok (.invokestatic 83, 3) := by decide +kernel
theorem dX10_occupancy_6 : decode cX10_occupancy 6 = .ok (.aload_n 0, 1) := by decide +kernel
theorem dX10_occupancy_7 : decode cX10_occupancy 7 = .ok (.getfield 32, 3) := by decide +kernel
theorem dX10_occupancy_10 : decode cX10_occupancy 10 = .ok (.getfield 96, 3) := by decide +kernel
theorem dX10_occupancy_13 : decode cX10_occupancy 13 = .ok (.getfield 182, 3) := by decide +kernel
theorem dX10_occupancy_16 : decode cX10_occupancy 16 = .ok (.iload_n 1, 1) := by decide +kernel
theorem dX10_occupancy_17 : decode cX10_occupancy 17 = .ok (.iconst 0, 1) := by decide +kernel
theorem dX10_occupancy_18 : decode cX10_occupancy 18 = .ok (.invokevirtual 148, 3) := by decide +kernel
theorem dX10_occupancy_21 : decode cX10_occupancy 21 = .ok (.istore_n 2, 1) := by decide +kernel
theorem dX10_occupancy_22 : decode cX10_occupancy 22 = .ok (.aload_n 0, 1) := by decide +kernel
theorem dX10_occupancy_23 : decode cX10_occupancy 23 = .ok (.getfield 32, 3) := by decide +kernel
theorem dX10_occupancy_26 : decode cX10_occupancy 26 = .ok (.getfield 96, 3) := by decide +kernel
theorem dX10_occupancy_29 : decode cX10_occupancy 29 = .ok (.getfield 182, 3) := by decide +kernel
theorem dX10_occupancy_32 : decode cX10_occupancy 32 = .ok (.iload_n 1, 1) := by decide +kernel
theorem dX10_occupancy_33 : decode cX10_occupancy 33 = .ok (.iconst 1, 1) := by decide +kernel
theorem dX10_occupancy_34 : decode cX10_occupancy 34 = .ok (.invokevirtual 148, 3) := by decide +kernel
theorem dX10_occupancy_37 : decode cX10_occupancy 37 = .ok (.istore_n 3, 1) := by decide +kernel
theorem dX10_occupancy_38 : decode cX10_occupancy 38 = .ok (.iload_n 2, 1) := by decide +kernel
theorem dX10_occupancy_39 : decode cX10_occupancy 39 = .ok (.iconst 1, 1) := by decide +kernel
theorem dX10_occupancy_40 : decode cX10_occupancy 40 = .ok (.if_icmp .ge 7, 3) := by decide +kernel
theorem dX10_occupancy_43 : decode cX10_occupancy 43 = .ok (.dconst 0, 1) := by decide +kernel
theorem dX10_occupancy_44 : decode cX10_occupancy 44 = .ok (.goto 8, 3) := by decide +kernel
theorem dX10_occupancy_47 : decode cX10_occupancy 47 = .ok (.iload_n 3, 1) := by decide +kernel
theorem dX10_occupancy_48 : decode cX10_occupancy 48 = .ok (.i2d, 1) := by decide +kernel
theorem dX10_occupancy_49 : decode cX10_occupancy 49 = .ok (.iload_n 2, 1) := by decide +kernel
theorem dX10_occupancy_50 : decode cX10_occupancy 50 = .ok (.i2d, 1) := by decide +kernel
theorem dX10_occupancy_51 : decode cX10_occupancy 51 = .ok (.ddiv, 1) := by decide +kernel
theorem dX10_occupancy_52 : decode cX10_occupancy 52 = .ok (.dreturn, 1) := by decide +kernel
set_option maxRecDepth 20000 in
theorem ggX10_reset_X3_save : GoodIn wsX10_reset wsX3_save := goodIn_r _ [7, 8, 9, 10, 11, 12, 13, 14, 15, 16, 17, 6, 18, 19, 20, 21, 22, 23, 24, 25, 26, 27, 28, 29, 30, 31, 32, 33, 34, 35, 36, 37, 38, 39, 40, 41, 42, 43, 44, 45, 46, 47, 48, 49, 50, 51, 52, 53, 54, 55, 56, 57, 58, 59, 60, 61, 62, 63, 64, 65, 66, 67, 68, 69, 70, 71, 72, 73, 74, 75, 76, 77, 78, 79, 80, 81, 82, 83, 84, 128, 129, 130, 115, 116, 117, 118, 119, 120, 121, 122, 123, 131, 132, 133, 134, 135, 136, 137, 138, 139, 140, 141, 142, 124, 125, 126, 127] (by decide +kernel) (by decide +kernel)
set_option maxRecDepth 20000 in
theorem gX10_reset_X3_save : GoodIn wsX10_reset (wsV RX10 62 RX3 yX3_save wsX3_save) := goodIn_app (goodIn_of _ (by decide +kernel)) ggX10_reset_X3_save
set_option maxRecDepth 20000 in
theorem ggX10_reset_X1_clear : GoodIn wsX10_reset wsX1_clear := goodIn_r _ [88, 69, 89, 90, 91, 46, 92, 48, 93, 94, 95, 96, 97, 98, 99, 100, 101, 102, 140, 141, 142, 133, 134, 135] (by decide +kernel) (by decide +kernel)
set_option maxRecDepth 20000 in
theorem gX10_reset_X1_clear : GoodIn wsX10_reset (wsV RX10 193 RX1 yX1_clear wsX1_clear) := goodIn_app (goodIn_of _ (by decide +kernel)) ggX10_reset_X1_clear
set_option maxRecDepth 20000 in
theorem ggX10_reset_X2_clear : GoodIn wsX10_reset wsX2_clear := goodIn_r _ [106, 83, 82, 107, 90, 91, 46, 92, 48, 93, 94, 95, 96, 124, 125, 126, 127, 133, 134, 135] (by decide +kernel) (by decide +kernel)
set_option maxRecDepth 20000 in
theorem gX10_reset_X2_clear : GoodIn wsX10_reset (wsV RX10 196 RX2 yX2_clear wsX2_clear) := goodIn_app (goodIn_of _ (by decide +kernel)) ggX10_reset_X2_clear
theorem dX10_reset_0 : decode cX10_reset 0 = .ok (.aload_n 0, 1) := by decide +kernel
theorem dX10_reset_1 : decode cX10_reset 1 = .ok (.getfield 39, 3) := by decide +kernel
theorem dX10_reset_4 : decode cX10_reset 4 = .ok (.aload_n 0, 1) := by decide +kernel
theorem dX10_reset_5 : decode cX10_reset 5 = .ok (.getfield 32, 3) := by decide +kernel
theorem dX10_reset_8 : decode cX10_reset 8 = .ok (.invokevirtual 62, 3) := by decide +kernel
theorem dX10_reset_11 : decode cX10_reset 11 = .ok (.aload_n 0, 1) := by decide +kernel
theorem dX10_reset_12 : decode cX10_reset 12 = .ok (.getfield 32, 3) := by decide +kernel
theorem dX10_reset_15 : decode cX10_reset 15 = .ok (.getfield 186, 3) := by decide +kernel
theorem dX10_reset_18 : decode cX10_reset 18 = .ok (.getfield 190, 3) := by decide +kernel
theorem dX10_reset_21 : decode cX10_reset 21 = .ok (.istore_n 1, 1) := by decide +kernel
theorem dX10_reset_22 : decode cX10_reset 22 = .ok (.aload_n 0, 1) := by decide +kernel
theorem dX10_reset_23 : decode cX10_reset 23 = .ok (.getfield 32, 3) := by decide +kernel
theorem dX10_reset_26 : decode cX10_reset 26 = .ok (.getfield 96, 3) := by decide +kernel
theorem dX10_reset_29 : decode cX10_reset 29 = .ok (.invokevirtual 193, 3) := by decide +kernel
theorem dX10_reset_32 : decode cX10_reset 32 = .ok (.aload_n 0, 1) := by decide +kernel
theorem dX10_reset_33 : decode cX10_reset 33 = .ok (.getfield 32, 3) := by decide +kernel
theorem dX10_reset_36 : decode cX10_reset 36 = .ok (.getfield 186, 3) := by decide +kernel
theorem dX10_reset_39 : decode cX10_reset 39 = .ok (.invokevirtual 196, 3) := by decide +kernel
theorem dX10_reset_42 : decode cX10_reset 42 = .ok (.iload_n 1, 1) := by decide +kernel
theorem dX10_reset_43 : decode cX10_reset 43 = .ok (.ireturn, 1) := by decide +kernel
theorem dX10_events_0 : decode cX10_events 0 = .ok (.aload_n 0, 1) := by decide +kernel
theorem dX10_events_1 : decode cX10_events 1 = .ok (.getfield 32, 3) := by decide +kernel
theorem dX10_events_4 : decode cX10_events 4 = .ok (.getfield 186, 3) := by decide +kernel
theorem dX10_events_7 : decode cX10_events 7 = .ok (.getfield 190, 3) := by decide +kernel
theorem dX10_events_10 : decode cX10_events 10 = .ok (.ireturn, 1) := by decide +kernel
set_option maxRecDepth 20000 in
theorem ggX10_event_X10_requireIndex : GoodIn wsX10_event wsX10_requireIndex := goodIn_ca (goodIn_r _ [5, 6, 7, 8, 9, 4, 10] (by decide +kernel) (by decide +kernel)) (goodIn_sub (fun _ h => List.mem_cons_of_mem _ (List.mem_append_left _ (List.mem_append_right _ h))) (by decide +kernel))
set_option maxRecDepth 20000 in
theorem gX10_event_X10_requireIndex : GoodIn wsX10_event (va_wsS RX10 83 yX10_requireIndex wsX10_requireIndex) := goodIn_app (goodIn_of _ (by decide +kernel)) ggX10_event_X10_requireIndex
set_option maxRecDepth 20000 in
theorem ggX10_event_X10_requireArgument : GoodIn wsX10_event wsX10_requireArgument := goodIn_ca (goodIn_r _ [13, 14, 15] (by decide +kernel) (by decide +kernel)) (goodIn_sub (fun _ h => List.mem_cons_of_mem _ (List.mem_append_right _ h)) (by decide +kernel))
set_option maxRecDepth 20000 in
theorem gX10_event_X10_requireArgument : GoodIn wsX10_event (va_wsS RX10 54 yX10_requireArgument wsX10_requireArgument) := goodIn_app (goodIn_of _ (by decide +kernel)) ggX10_event_X10_requireArgument
set_option maxRecDepth 20000 in
theorem ggX10_event_X10_findChains : GoodIn wsX10_event wsX10_findChains := goodIn_r _ [19, 20, 1, 21, 22, 23, 24, 25, 26, 27, 28, 29, 30, 31, 32, 33, 34, 35, 36, 37, 38, 39, 40, 41, 42, 43, 44, 45, 46, 47, 48, 9, 4, 10, 49, 50, 51, 52, 53, 54, 55, 56, 57, 58, 59, 60, 61, 62, 76, 77, 78, 79, 80, 81, 82, 83, 84, 85, 86, 87, 88, 89, 90, 91, 92, 93, 94, 95, 96, 97, 98, 99, 100, 101, 102] (by decide +kernel) (by decide +kernel)
set_option maxRecDepth 20000 in
theorem gX10_event_X10_findChains : GoodIn wsX10_event (wsV RX10 197 RX10 yX10_findChains wsX10_findChains) := goodIn_app (goodIn_of _ (by decide +kernel)) ggX10_event_X10_findChains
set_option maxRecDepth 20000 in
theorem ggX10_event_X10_describeEvent : GoodIn wsX10_event wsX10_describeEvent := goodIn_r _ [66, 20, 1, 67, 68, 69, 24, 70, 30, 32, 9, 4, 10, 71, 72, 73, 74, 33, 75, 43, 44, 45, 46, 47, 48, 49, 50, 51, 52, 53, 54, 55, 56, 76, 77, 78, 79, 80, 81, 82, 83, 84, 85, 86, 87, 88, 89, 90, 91, 96, 97, 98, 99, 92, 93, 94, 95, 100, 101, 102] (by decide +kernel) (by decide +kernel)
set_option maxRecDepth 20000 in
theorem gX10_event_X10_describeEvent : GoodIn wsX10_event (wsV RX10 200 RX10 yX10_describeEvent wsX10_describeEvent) := goodIn_app (goodIn_of _ (by decide +kernel)) ggX10_event_X10_describeEvent
theorem dX10_event_0 : decode cX10_event 0 = .ok (.iload_n 1, 1) := by decide +kernel
theorem dX10_event_1 : decode cX10_event 1 = .ok (.aload_n 0, 1) := by decide +kernel
theorem dX10_event_2 : decode cX10_event 2 = .ok (.getfield 32, 3) := by decide +kernel
theorem dX10_event_5 : decode cX10_event 5 = .ok (.getfield 186, 3) := by decide +kernel
theorem dX10_event_8 : decode cX10_event 8 = .ok (.getfield 190, 3) := by decide +kernel
theorem dX10_event_11 : decode cX10_event 11 = .ok (.invokestatic 83, 3) := by decide +kernel
theorem dX10_event_14 : decode cX10_event 14 = .ok (.iload_n 2, 1) := by decide +kernel
theorem dX10_event_15 : decode cX10_event 15 = .ok (.iconst 0, 1) := by decide +kernel
theorem dX10_event_16 : decode cX10_event 16 = .ok (.bipush 6, 2) := by decide +kernel
theorem dX10_event_18 : decode cX10_event 18 = .ok (.invokestatic 54, 3) := by decide +kernel
theorem dX10_event_21 : decode cX10_event 21 = .ok (.aload_n 0, 1) := by decide +kernel
theorem dX10_event_22 : decode cX10_event 22 = .ok (.invokevirtual 197, 3) := by decide +kernel
theorem dX10_event_25 : decode cX10_event 25 = .ok (.aload_n 0, 1) := by decide +kernel
theorem dX10_event_26 : decode cX10_event 26 = .ok (.iload_n 1, 1) := by decide +kernel
theorem dX10_event_27 : decode cX10_event 27 = .ok (.iload_n 2, 1) := by decide +kernel
theorem dX10_event_28 : decode cX10_event 28 = .ok (.invokevirtual 200, 3) := by decide +kernel
theorem dX10_event_31 : decode cX10_event 31 = .ok (.ireturn, 1) := by decide +kernel
set_option maxRecDepth 20000 in
theorem ggX10_chainLength_X10_requireIndex : GoodIn wsX10_chainLength wsX10_requireIndex := goodIn_ca (goodIn_r _ [6, 7, 8, 9, 10, 5, 11] (by decide +kernel) (by decide +kernel)) (goodIn_sub (fun _ h => List.mem_cons_of_mem _ (List.mem_append_right _ h)) (by decide +kernel))
set_option maxRecDepth 20000 in
theorem gX10_chainLength_X10_requireIndex : GoodIn wsX10_chainLength (va_wsS RX10 83 yX10_requireIndex wsX10_requireIndex) := goodIn_app (goodIn_of _ (by decide +kernel)) ggX10_chainLength_X10_requireIndex
set_option maxRecDepth 20000 in
theorem ggX10_chainLength_X10_findChains : GoodIn wsX10_chainLength wsX10_findChains := goodIn_r _ [15, 2, 1, 16, 17, 18, 19, 20, 21, 22, 23, 24, 25, 26, 27, 28, 29, 30, 31, 32, 33, 34, 35, 36, 37, 38, 39, 40, 41, 42, 43, 10, 5, 11, 44, 45, 46, 47, 48, 49, 50, 51, 52, 53, 54, 55, 56, 57, 66, 67, 68, 69, 70, 71, 72, 73, 74, 75, 76, 77, 78, 79, 80, 81, 82, 83, 84, 85, 86, 87, 88, 89, 90, 91, 92] (by decide +kernel) (by decide +kernel)
set_option maxRecDepth 20000 in
theorem gX10_chainLength_X10_findChains : GoodIn wsX10_chainLength (wsV RX10 197 RX10 yX10_findChains wsX10_findChains) := goodIn_app (goodIn_of _ (by decide +kernel)) ggX10_chainLength_X10_findChains
set_option maxRecDepth 20000 in
theorem ggX10_chainLength_X4_firstOf : GoodIn wsX10_chainLength wsX4_firstOf := goodIn_r _ [61, 25, 28, 10, 5, 11, 86, 87, 88, 89] (by decide +kernel) (by decide +kernel)
set_option maxRecDepth 20000 in
theorem gX10_chainLength_X4_firstOf : GoodIn wsX10_chainLength (wsV RX10 203 RX4 yX4_firstOf wsX4_firstOf) := goodIn_app (goodIn_of _ (by decide +kernel)) ggX10_chainLength_X4_firstOf
set_option maxRecDepth 20000 in
theorem ggX10_chainLength_X4_lengthFrom : GoodIn wsX10_chainLength wsX4_lengthFrom := goodIn_r _ [65, 25, 28, 86, 87, 88, 89] (by decide +kernel) (by decide +kernel)
set_option maxRecDepth 20000 in
theorem gX10_chainLength_X4_lengthFrom : GoodIn wsX10_chainLength (wsV RX10 206 RX4 yX4_lengthFrom wsX4_lengthFrom) := goodIn_app (goodIn_of _ (by decide +kernel)) ggX10_chainLength_X4_lengthFrom
theorem dX10_chainLength_0 : decode cX10_chainLength 0 = .ok (.iload_n 1, 1) := by decide +kernel
theorem dX10_chainLength_1 : decode cX10_chainLength 1 = .ok (.aload_n 0, 1) := by decide +kernel
theorem dX10_chainLength_2 : decode cX10_chainLength 2 = .ok (.getfield 32, 3) := by decide +kernel
theorem dX10_chainLength_5 : decode cX10_chainLength 5 = .ok (.getfield 186, 3) := by decide +kernel
theorem dX10_chainLength_8 : decode cX10_chainLength 8 = .ok (.getfield 190, 3) := by decide +kernel
theorem dX10_chainLength_11 : decode cX10_chainLength 11 = .ok (.invokestatic 83, 3) := by decide +kernel
theorem dX10_chainLength_14 : decode cX10_chainLength 14 = .ok (.aload_n 0, 1) := by decide +kernel
theorem dX10_chainLength_15 : decode cX10_chainLength 15 = .ok (.invokevirtual 197, 3) := by decide +kernel
theorem dX10_chainLength_18 : decode cX10_chainLength 18 = .ok (.aload_n 0, 1) := by decide +kernel
theorem dX10_chainLength_19 : decode cX10_chainLength 19 = .ok (.getfield 46, 3) := by decide +kernel
theorem dX10_chainLength_22 : decode cX10_chainLength 22 = .ok (.aload_n 0, 1) := by decide +kernel
theorem dX10_chainLength_23 : decode cX10_chainLength 23 = .ok (.getfield 46, 3) := by decide +kernel
theorem dX10_chainLength_26 : decode cX10_chainLength 26 = .ok (.iload_n 1, 1) := by decide +kernel
theorem dX10_chainLength_27 : decode cX10_chainLength 27 = .ok (.invokevirtual 203, 3) := by decide +kernel
theorem dX10_chainLength_30 : decode cX10_chainLength 30 = .ok (.invokevirtual 206, 3) := by decide +kernel
theorem dX10_chainLength_33 : decode cX10_chainLength 33 = .ok (.ireturn, 1) := by decide +kernel
set_option maxRecDepth 20000 in
theorem ggX10_chains_X10_findChains : GoodIn wsX10_chains wsX10_findChains := goodIn_r _ [6, 1, 7, 8, 9, 10, 11, 12, 13, 14, 15, 16, 17, 18, 19, 20, 21, 22, 23, 24, 25, 26, 27, 28, 29, 30, 31, 32, 33, 34, 35, 36, 5, 37, 38, 39, 40, 41, 42, 43, 44, 45, 46, 47, 48, 49, 50, 51, 56, 57, 58, 59, 60, 61, 62, 63, 64, 65, 66, 67, 68, 69, 70, 71, 72, 73, 74, 75, 76, 77, 78, 79, 80, 81, 82] (by decide +kernel) (by decide +kernel)
set_option maxRecDepth 20000 in
theorem gX10_chains_X10_findChains : GoodIn wsX10_chains (wsV RX10 197 RX10 yX10_findChains wsX10_findChains) := goodIn_app (goodIn_of _ (by decide +kernel)) ggX10_chains_X10_findChains
set_option maxRecDepth 20000 in
theorem ggX10_chains_X4_number : GoodIn wsX10_chains wsX4_number := goodIn_r _ [55, 17, 20, 76, 77, 78, 79] (by decide +kernel) (by decide +kernel)
set_option maxRecDepth 20000 in
theorem gX10_chains_X4_number : GoodIn wsX10_chains (wsV RX10 209 RX4 yX4_number wsX4_number) := goodIn_app (goodIn_of _ (by decide +kernel)) ggX10_chains_X4_number
theorem dX10_chains_0 : decode cX10_chains 0 = .ok (.aload_n 0, 1) := by decide +kernel
theorem dX10_chains_1 : decode cX10_chains 1 = .ok (.invokevirtual 197, 3) := by decide +kernel
theorem dX10_chains_4 : decode cX10_chains 4 = .ok (.aload_n 0, 1) := by decide +kernel
theorem dX10_chains_5 : decode cX10_chains 5 = .ok (.getfield 46, 3) := by decide +kernel
theorem dX10_chains_8 : decode cX10_chains 8 = .ok (.invokevirtual 209, 3) := by decide +kernel
theorem dX10_chains_11 : decode cX10_chains 11 = .ok (.ireturn, 1) := by decide +kernel
set_option maxRecDepth 20000 in
theorem ggX10_hopInterval_X10_requireIndex : GoodIn wsX10_hopInterval wsX10_requireIndex := goodIn_ca (goodIn_r _ [6, 7, 8, 9, 10, 5, 11] (by decide +kernel) (by decide +kernel)) (goodIn_sub (fun _ h => List.mem_cons_of_mem _ (List.mem_append_right _ h)) (by decide +kernel))
set_option maxRecDepth 20000 in
theorem gX10_hopInterval_X10_requireIndex : GoodIn wsX10_hopInterval (va_wsS RX10 83 yX10_requireIndex wsX10_requireIndex) := goodIn_app (goodIn_of _ (by decide +kernel)) ggX10_hopInterval_X10_requireIndex
set_option maxRecDepth 20000 in
theorem ggX10_hopInterval_X10_findChains : GoodIn wsX10_hopInterval wsX10_findChains := goodIn_r _ [15, 2, 1, 16, 17, 18, 19, 20, 21, 22, 23, 24, 25, 26, 27, 28, 29, 30, 31, 32, 33, 34, 35, 36, 37, 38, 39, 40, 41, 42, 43, 10, 5, 11, 44, 45, 46, 47, 48, 49, 50, 51, 52, 53, 54, 55, 56, 57, 71, 72, 73, 74, 75, 76, 77, 78, 79, 80, 81, 82, 83, 84, 85, 86, 87, 88, 89, 90, 91, 92, 93, 94, 95, 96, 97] (by decide +kernel) (by decide +kernel)
set_option maxRecDepth 20000 in
theorem gX10_hopInterval_X10_findChains : GoodIn wsX10_hopInterval (wsV RX10 197 RX10 yX10_findChains wsX10_findChains) := goodIn_app (goodIn_of _ (by decide +kernel)) ggX10_hopInterval_X10_findChains
set_option maxRecDepth 20000 in
theorem ggX10_hopInterval_X4_firstOf : GoodIn wsX10_hopInterval wsX4_firstOf := goodIn_r _ [61, 25, 28, 10, 5, 11, 91, 92, 93, 94] (by decide +kernel) (by decide +kernel)
set_option maxRecDepth 20000 in
theorem gX10_hopInterval_X4_firstOf : GoodIn wsX10_hopInterval (wsV RX10 203 RX4 yX4_firstOf wsX4_firstOf) := goodIn_app (goodIn_of _ (by decide +kernel)) ggX10_hopInterval_X4_firstOf
set_option maxRecDepth 20000 in
theorem ggX10_hopInterval_X4_lengthFrom : GoodIn wsX10_hopInterval wsX4_lengthFrom := goodIn_r _ [65, 25, 28, 91, 92, 93, 94] (by decide +kernel) (by decide +kernel)
set_option maxRecDepth 20000 in
theorem gX10_hopInterval_X4_lengthFrom : GoodIn wsX10_hopInterval (wsV RX10 206 RX4 yX4_lengthFrom wsX4_lengthFrom) := goodIn_app (goodIn_of _ (by decide +kernel)) ggX10_hopInterval_X4_lengthFrom
set_option maxRecDepth 20000 in
theorem ggX10_hopInterval_X4_lastFrom : GoodIn wsX10_hopInterval wsX4_lastFrom := goodIn_r _ [69, 25, 28, 91, 92, 93, 94] (by decide +kernel) (by decide +kernel)
set_option maxRecDepth 20000 in
theorem gX10_hopInterval_X4_lastFrom : GoodIn wsX10_hopInterval (wsV RX10 212 RX4 yX4_lastFrom wsX4_lastFrom) := goodIn_app (goodIn_of _ (by decide +kernel)) ggX10_hopInterval_X4_lastFrom
set_option maxRecDepth 20000 in
theorem ggX10_hopInterval_X2_read : GoodIn wsX10_hopInterval wsX2_read := goodIn_r _ [41, 42, 43, 10, 5, 11, 44, 45, 46, 47, 48, 49, 50, 51, 87, 88, 89, 90, 95, 96, 97] (by decide +kernel) (by decide +kernel)
set_option maxRecDepth 20000 in
theorem gX10_hopInterval_X2_read : GoodIn wsX10_hopInterval (wsV RX10 215 RX2 yX2_read wsX2_read) := goodIn_app (goodIn_of _ (by decide +kernel)) ggX10_hopInterval_X2_read
theorem dX10_hopInterval_0 : decode cX10_hopInterval 0 = .ok (.iload_n 1, 1) := by decide +kernel
theorem dX10_hopInterval_1 : decode cX10_hopInterval 1 = .ok (.aload_n 0, 1) := by decide +kernel
theorem dX10_hopInterval_2 : decode cX10_hopInterval 2 = .ok (.getfield 32, 3) := by decide +kernel
theorem dX10_hopInterval_5 : decode cX10_hopInterval 5 = .ok (.getfield 186, 3) := by decide +kernel
theorem dX10_hopInterval_8 : decode cX10_hopInterval 8 = .ok (.getfield 190, 3) := by decide +kernel
theorem dX10_hopInterval_11 : decode cX10_hopInterval 11 = .ok (.invokestatic 83, 3) := by decide +kernel
theorem dX10_hopInterval_14 : decode cX10_hopInterval 14 = .ok (.aload_n 0, 1) := by decide +kernel
theorem dX10_hopInterval_15 : decode cX10_hopInterval 15 = .ok (.invokevirtual 197, 3) := by decide +kernel
theorem dX10_hopInterval_18 : decode cX10_hopInterval 18 = .ok (.aload_n 0, 1) := by decide +kernel
theorem dX10_hopInterval_19 : decode cX10_hopInterval 19 = .ok (.getfield 46, 3) := by decide +kernel
theorem dX10_hopInterval_22 : decode cX10_hopInterval 22 = .ok (.iload_n 1, 1) := by decide +kernel
theorem dX10_hopInterval_23 : decode cX10_hopInterval 23 = .ok (.invokevirtual 203, 3) := by decide +kernel
theorem dX10_hopInterval_26 : decode cX10_hopInterval 26 = .ok (.istore_n 2, 1) := by decide +kernel
theorem dX10_hopInterval_27 : decode cX10_hopInterval 27 = .ok (.aload_n 0, 1) := by decide +kernel
theorem dX10_hopInterval_28 : decode cX10_hopInterval 28 = .ok (.getfield 46, 3) := by decide +kernel
theorem dX10_hopInterval_31 : decode cX10_hopInterval 31 = .ok (.iload_n 2, 1) := by decide +kernel
theorem dX10_hopInterval_32 : decode cX10_hopInterval 32 = .ok (.invokevirtual 206, 3) := by decide +kernel
theorem dX10_hopInterval_35 : decode cX10_hopInterval 35 = .ok (.iconst 1, 1) := by decide +kernel
theorem dX10_hopInterval_36 : decode cX10_hopInterval 36 = .ok (.isub, 1) := by decide +kernel
theorem dX10_hopInterval_37 : decode cX10_hopInterval 37 = .ok (.istore_n 3, 1) := by decide +kernel
theorem dX10_hopInterval_38 : decode cX10_hopInterval 38 = .ok (.iload_n 3, 1) := by decide +kernel
theorem dX10_hopInterval_39 : decode cX10_hopInterval 39 = .ok (.iconst 1, 1) := by decide +kernel
theorem dX10_hopInterval_40 : decode cX10_hopInterval 40 = .ok (.if_icmp .ge 5, 3) := by decide +kernel
theorem dX10_hopInterval_43 : decode cX10_hopInterval 43 = .ok (.dconst 0, 1) := by decide +kernel
theorem dX10_hopInterval_44 : decode cX10_hopInterval 44 = .ok (.dreturn, 1) := by decide +kernel
theorem dX10_hopInterval_45 : decode cX10_hopInterval 45 = .ok (.aload_n 0, 1) := by decide +kernel
theorem dX10_hopInterval_46 : decode cX10_hopInterval 46 = .ok (.getfield 46, 3) := by decide +kernel
theorem dX10_hopInterval_49 : decode cX10_hopInterval 49 = .ok (.iload_n 2, 1) := by decide +kernel
theorem dX10_hopInterval_50 : decode cX10_hopInterval 50 = .ok (.invokevirtual 212, 3) := by decide +kernel
theorem dX10_hopInterval_53 : decode cX10_hopInterval 53 = .ok (.istore 4, 2) := by decide +kernel
theorem dX10_hopInterval_55 : decode cX10_hopInterval 55 = .ok (.aload_n 0, 1) := by decide +kernel
theorem dX10_hopInterval_56 : decode cX10_hopInterval 56 = .ok (.getfield 32, 3) := by decide +kernel
theorem dX10_hopInterval_59 : decode cX10_hopInterval 59 = .ok (.getfield 186, 3) := by decide +kernel
theorem dX10_hopInterval_62 : decode cX10_hopInterval 62 = .ok (.iload 4, 2) := by decide +kernel
theorem dX10_hopInterval_64 : decode cX10_hopInterval 64 = .ok (.iconst 1, 1) := by decide +kernel
theorem dX10_hopInterval_65 : decode cX10_hopInterval 65 = .ok (.invokevirtual 215, 3) := by decide +kernel
theorem dX10_hopInterval_68 : decode cX10_hopInterval 68 = .ok (.aload_n 0, 1) := by decide +kernel
theorem dX10_hopInterval_69 : decode cX10_hopInterval 69 = .ok (.getfield 32, 3) := by decide +kernel
theorem dX10_hopInterval_72 : decode cX10_hopInterval 72 = .ok (.getfield 186, 3) := by decide +kernel
theorem dX10_hopInterval_75 : decode cX10_hopInterval 75 = .ok (.iload_n 2, 1) := by decide +kernel
theorem dX10_hopInterval_76 : decode cX10_hopInterval 76 = .ok (.iconst 1, 1) := by decide +kernel
theorem dX10_hopInterval_77 : decode cX10_hopInterval 77 = .ok (.invokevirtual 215, 3) := by decide +kernel
theorem dX10_hopInterval_80 : decode cX10_hopInterval 80 = .ok (.isub, 1) := by decide +kernel
theorem dX10_hopInterval_81 : decode cX10_hopInterval 81 = .ok (.istore 5, 2) := by decide +kernel
theorem dX10_hopInterval_83 : decode cX10_hopInterval 83 = .ok (.iload 5, 2) := by decide +kernel
theorem dX10_hopInterval_85 : decode cX10_hopInterval 85 = .ok (.i2d, 1) := by decide +kernel
theorem dX10_hopInterval_86 : decode cX10_hopInterval 86 = .ok (.iload_n 3, 1) := by decide +kernel
theorem dX10_hopInterval_87 : decode cX10_hopInterval 87 = .ok (.i2d, 1) := by decide +kernel
theorem dX10_hopInterval_88 : decode cX10_hopInterval 88 = .ok (.ddiv, 1) := by decide +kernel
theorem dX10_hopInterval_89 : decode cX10_hopInterval 89 = .ok (.dreturn, 1) := by decide +kernel
set_option maxRecDepth 20000 in
theorem ggX10_undo_X3_restore : GoodIn wsX10_undo wsX3_restore := goodIn_r _ [9, 10, 11, 12, 13, 14, 15, 8, 16, 17, 18, 19, 20, 21, 22, 23, 24, 25, 26, 27, 28, 29, 30, 31, 32, 33, 34, 35, 36, 37, 38, 39, 40, 41, 42, 43, 44, 45, 46, 47, 48, 49, 50, 51, 52, 53, 54, 55, 56, 57, 58, 59, 60, 61, 62, 63, 64, 65, 66, 67, 68, 69, 70, 71, 72, 73, 74, 75, 76, 77, 78, 79, 80, 81, 82, 83, 84, 85, 93, 94, 95, 96, 97, 98, 99, 100, 101, 102, 103, 104, 105, 106, 107, 108, 109, 110, 111, 112, 113, 114, 115, 116, 117, 118, 119, 120] (by decide +kernel) (by decide +kernel)
set_option maxRecDepth 20000 in
theorem gX10_undo_X3_restore : GoodIn wsX10_undo (wsV RX10 221 RX3 yX3_restore wsX3_restore) := goodIn_app (goodIn_of _ (by decide +kernel)) ggX10_undo_X3_restore
theorem dX10_undo_0 : decode cX10_undo 0 = .ok (.aload_n 0, 1) := by decide +kernel
theorem dX10_undo_1 : decode cX10_undo 1 = .ok (.getfield 39, 3) := by decide +kernel
theorem dX10_undo_4 : decode cX10_undo 4 = .ok (.getfield 218, 3) := by decide +kernel
theorem dX10_undo_7 : decode cX10_undo 7 = .ok (.iconst 1, 1) := by decide +kernel
theorem dX10_undo_8 : decode cX10_undo 8 = .ok (.if_icmp .ge 13, 3) := by decide +kernel
theorem dX10_undo_11 : decode cX10_undo 11 = .ok (.new 117, 3) := by decide +kernel
theorem dX10_undo_14 : decode cX10_undo 14 = .ok (.dup, 1) := by decide +kernel
theorem dX10_undo_15 : decode cX10_undo 15 = .ok (.ldc 219, 2) := by decide +kernel
theorem dX10_undo_17 : decode cX10_undo 17 = .ok (.invokespecial 121, 3) := by decide +kernel
theorem dX10_undo_20 : decode cX10_undo 20 = .ok (.athrow, 1) := by decide +kernel
theorem dX10_undo_21 : decode cX10_undo 21 = .ok (.aload_n 0, 1) := by decide +kernel
theorem dX10_undo_22 : decode cX10_undo 22 = .ok (.getfield 39, 3) := by decide +kernel
theorem dX10_undo_25 : decode cX10_undo 25 = .ok (.aload_n 0, 1) := by decide +kernel
theorem dX10_undo_26 : decode cX10_undo 26 = .ok (.getfield 32, 3) := by decide +kernel
theorem dX10_undo_29 : decode cX10_undo 29 = .ok (.invokevirtual 221, 3) := by decide +kernel
theorem dX10_undo_32 : decode cX10_undo 32 = .ok (.aload_n 0, 1) := by decide +kernel
theorem dX10_undo_33 : decode cX10_undo 33 = .ok (.getfield 39, 3) := by decide +kernel
theorem dX10_undo_36 : decode cX10_undo 36 = .ok (.getfield 218, 3) := by decide +kernel
theorem dX10_undo_39 : decode cX10_undo 39 = .ok (.ireturn, 1) := by decide +kernel
set_option maxRecDepth 20000 in
theorem ggX10_digest_X10_mix : GoodIn wsX10_digest wsX10_mix := goodIn_r _ [8, 9] (by decide +kernel) (by decide +kernel)
set_option maxRecDepth 20000 in
theorem gX10_digest_X10_mix : GoodIn wsX10_digest (va_wsS RX10 226 yX10_mix wsX10_mix) := goodIn_app (goodIn_of _ (by decide +kernel)) ggX10_digest_X10_mix
set_option maxRecDepth 20000 in
theorem ggX10_digest_X9_mixRows : GoodIn wsX10_digest wsX9_mixRows := goodIn_r _ [14, 15, 16, 17, 13, 18, 19, 20, 21, 22, 23, 24, 25, 6, 7, 8, 9, 138, 139, 140] (by decide +kernel) (by decide +kernel)
set_option maxRecDepth 20000 in
theorem gX10_digest_X9_mixRows : GoodIn wsX10_digest (wsV RX10 231 RX9 yX9_mixRows wsX9_mixRows) := goodIn_app (goodIn_of _ (by decide +kernel)) ggX10_digest_X9_mixRows
set_option maxRecDepth 20000 in
theorem ggX10_digest_X5_nextStep : GoodIn wsX10_digest wsX5_nextStep := goodIn_r _ [30, 31, 32, 131, 132, 133, 134] (by decide +kernel) (by decide +kernel)
set_option maxRecDepth 20000 in
theorem gX10_digest_X5_nextStep : GoodIn wsX10_digest (wsV RX10 176 RX5 yX5_nextStep wsX5_nextStep) := goodIn_app (goodIn_of _ (by decide +kernel)) ggX10_digest_X5_nextStep
set_option maxRecDepth 20000 in
theorem ggX10_digest_X1_mixChannels : GoodIn wsX10_digest wsX1_mixChannels := goodIn_r _ [37, 38, 39, 40, 41, 36, 42, 43, 44, 21, 22, 13, 23, 24, 19, 25, 6, 7, 8, 9, 45, 16, 17, 18, 20, 46, 47, 48, 49, 50, 51, 52, 53, 54, 141, 142, 143, 138, 139, 140] (by decide +kernel) (by decide +kernel)
set_option maxRecDepth 20000 in
theorem gX10_digest_X1_mixChannels : GoodIn wsX10_digest (wsV RX10 234 RX1 yX1_mixChannels wsX1_mixChannels) := goodIn_app (goodIn_of _ (by decide +kernel)) ggX10_digest_X1_mixChannels
set_option maxRecDepth 20000 in
theorem ggX10_digest_X10_findChains : GoodIn wsX10_digest wsX10_findChains := goodIn_r _ [58, 59, 3, 60, 61, 62, 63, 64, 65, 51, 52, 53, 66, 67, 68, 69, 70, 71, 72, 73, 74, 75, 76, 77, 78, 79, 80, 81, 82, 83, 84, 85, 7, 86, 87, 21, 22, 13, 23, 24, 19, 25, 88, 89, 90, 91, 92, 93, 111, 112, 113, 114, 115, 116, 117, 120, 121, 122, 123, 124, 125, 126, 127, 128, 144, 145, 146, 147, 148, 149, 150, 151, 138, 139, 140] (by decide +kernel) (by decide +kernel)
set_option maxRecDepth 20000 in
theorem gX10_digest_X10_findChains : GoodIn wsX10_digest (wsV RX10 197 RX10 yX10_findChains wsX10_findChains) := goodIn_app (goodIn_of _ (by decide +kernel)) ggX10_digest_X10_findChains
set_option maxRecDepth 20000 in
theorem ggX10_digest_X10_mixEvents : GoodIn wsX10_digest wsX10_mixEvents := goodIn_r _ [97, 3, 5, 6, 7, 8, 9, 98, 99, 100, 101, 59, 102, 103, 104, 63, 105, 66, 68, 85, 86, 106, 107, 108, 109, 69, 110, 79, 80, 81, 82, 83, 84, 87, 21, 22, 13, 23, 24, 19, 25, 111, 112, 113, 114, 115, 116, 117, 120, 121, 122, 123, 124, 125, 126, 127, 128, 144, 145, 146, 147, 148, 149, 150, 151, 138, 139, 140] (by decide +kernel) (by decide +kernel)
set_option maxRecDepth 20000 in
theorem gX10_digest_X10_mixEvents : GoodIn wsX10_digest (wsV RX10 238 RX10 yX10_mixEvents wsX10_mixEvents) := goodIn_app (goodIn_of _ (by decide +kernel)) ggX10_digest_X10_mixEvents
theorem dX10_digest_0 : decode cX10_digest 0 = .ok (.ldc2_w 224, 3) := by decide +kernel
theorem dX10_digest_3 : decode cX10_digest 3 = .ok (.aload_n 0, 1) := by decide +kernel
theorem dX10_digest_4 : decode cX10_digest 4 = .ok (.getfield 20, 3) := by decide +kernel
theorem dX10_digest_7 : decode cX10_digest 7 = .ok (.getfield 114, 3) := by decide +kernel
theorem dX10_digest_10 : decode cX10_digest 10 = .ok (.invokestatic 226, 3) := by decide +kernel
theorem dX10_digest_13 : decode cX10_digest 13 = .ok (.lstore_n 1, 1) := by decide +kernel
theorem dX10_digest_14 : decode cX10_digest 14 = .ok (.lload_n 1, 1) := by decide +kernel
theorem dX10_digest_15 : decode cX10_digest 15 = .ok (.aload_n 0, 1) := by decide +kernel
theorem dX10_digest_16 : decode cX10_digest 16 = .ok (.getfield 32, 3) := by decide +kernel
theorem dX10_digest_19 : decode cX10_digest 19 = .ok (.getfield 173, 3) := by decide +kernel
theorem dX10_digest_22 : decode cX10_digest 22 = .ok (.invokestatic 226, 3) := by decide +kernel
theorem dX10_digest_25 : decode cX10_digest 25 = .ok (.lstore_n 1, 1) := by decide +kernel
theorem dX10_digest_26 : decode cX10_digest 26 = .ok (.lload_n 1, 1) := by decide +kernel
theorem dX10_digest_27 : decode cX10_digest 27 = .ok (.aload_n 0, 1) := by decide +kernel
theorem dX10_digest_28 : decode cX10_digest 28 = .ok (.getfield 32, 3) := by decide +kernel
theorem dX10_digest_31 : decode cX10_digest 31 = .ok (.getfield 93, 3) := by decide +kernel
theorem dX10_digest_34 : decode cX10_digest 34 = .ok (.invokestatic 226, 3) := by decide +kernel
theorem dX10_digest_37 : decode cX10_digest 37 = .ok (.lstore_n 1, 1) := by decide +kernel
theorem dX10_digest_38 : decode cX10_digest 38 = .ok (.lload_n 1, 1) := by decide +kernel
theorem dX10_digest_39 : decode cX10_digest 39 = .ok (.aload_n 0, 1) := by decide +kernel
theorem dX10_digest_40 : decode cX10_digest 40 = .ok (.getfield 32, 3) := by decide +kernel
theorem dX10_digest_43 : decode cX10_digest 43 = .ok (.getfield 90, 3) := by decide +kernel
theorem dX10_digest_46 : decode cX10_digest 46 = .ok (.invokestatic 226, 3) := by decide +kernel
theorem dX10_digest_49 : decode cX10_digest 49 = .ok (.lstore_n 1, 1) := by decide +kernel
theorem dX10_digest_50 : decode cX10_digest 50 = .ok (.lload_n 1, 1) := by decide +kernel
theorem dX10_digest_51 : decode cX10_digest 51 = .ok (.aload_n 0, 1) := by decide +kernel
theorem dX10_digest_52 : decode cX10_digest 52 = .ok (.getfield 32, 3) := by decide +kernel
theorem dX10_digest_55 : decode cX10_digest 55 = .ok (.getfield 108, 3) := by decide +kernel
theorem dX10_digest_58 : decode cX10_digest 58 = .ok (.invokestatic 226, 3) := by decide +kernel
theorem dX10_digest_61 : decode cX10_digest 61 = .ok (.lstore_n 1, 1) := by decide +kernel
theorem dX10_digest_62 : decode cX10_digest 62 = .ok (.lload_n 1, 1) := by decide +kernel
theorem dX10_digest_63 : decode cX10_digest 63 = .ok (.aload_n 0, 1) := by decide +kernel
theorem dX10_digest_64 : decode cX10_digest 64 = .ok (.getfield 32, 3) := by decide +kernel
theorem dX10_digest_67 : decode cX10_digest 67 = .ok (.getfield 111, 3) := by decide +kernel
theorem dX10_digest_70 : decode cX10_digest 70 = .ok (.invokestatic 226, 3) := by decide +kernel
theorem dX10_digest_73 : decode cX10_digest 73 = .ok (.lstore_n 1, 1) := by decide +kernel
theorem dX10_digest_74 : decode cX10_digest 74 = .ok (.lload_n 1, 1) := by decide +kernel
theorem dX10_digest_75 : decode cX10_digest 75 = .ok (.aload_n 0, 1) := by decide +kernel
theorem dX10_digest_76 : decode cX10_digest 76 = .ok (.getfield 32, 3) := by decide +kernel
theorem dX10_digest_79 : decode cX10_digest 79 = .ok (.getfield 66, 3) := by decide +kernel
theorem dX10_digest_82 : decode cX10_digest 82 = .ok (.getfield 79, 3) := by decide +kernel
theorem dX10_digest_85 : decode cX10_digest 85 = .ok (.invokestatic 226, 3) := by decide +kernel
theorem dX10_digest_88 : decode cX10_digest 88 = .ok (.lstore_n 1, 1) := by decide +kernel
theorem dX10_digest_89 : decode cX10_digest 89 = .ok (.aload_n 0, 1) := by decide +kernel
theorem dX10_digest_90 : decode cX10_digest 90 = .ok (.getfield 32, 3) := by decide +kernel
theorem dX10_digest_93 : decode cX10_digest 93 = .ok (.getfield 66, 3) := by decide +kernel
theorem dX10_digest_96 : decode cX10_digest 96 = .ok (.getfield 230, 3) := by decide +kernel
theorem dX10_digest_99 : decode cX10_digest 99 = .ok (.lload_n 1, 1) := by decide +kernel
theorem dX10_digest_100 : decode cX10_digest 100 = .ok (.aload_n 0, 1) := by decide +kernel
theorem dX10_digest_101 : decode cX10_digest 101 = .ok (.getfield 32, 3) := by decide +kernel
theorem dX10_digest_104 : decode cX10_digest 104 = .ok (.getfield 66, 3) := by decide +kernel
