theorem dX11_readsStep_121 : decode cX11_readsStep 121 = .ok (.iload_n 2, 1) := by decide +kernel
theorem dX11_readsStep_122 : decode cX11_readsStep 122 = .ok (.iastore, 1) := by decide +kernel
theorem dX11_readsStep_123 : decode cX11_readsStep 123 = .ok (.aload_n 0, 1) := by decide +kernel
theorem dX11_readsStep_124 : decode cX11_readsStep 124 = .ok (.getfield 19, 3) := by decide +kernel
theorem dX11_readsStep_127 : decode cX11_readsStep 127 = .ok (.iconst 3, 1) := by decide +kernel
theorem dX11_readsStep_128 : decode cX11_readsStep 128 = .ok (.aload_n 0, 1) := by decide +kernel
theorem dX11_readsStep_129 : decode cX11_readsStep 129 = .ok (.getfield 87, 3) := by decide +kernel
theorem dX11_readsStep_132 : decode cX11_readsStep 132 = .ok (.imul, 1) := by decide +kernel
theorem dX11_readsStep_133 : decode cX11_readsStep 133 = .ok (.iconst 2, 1) := by decide +kernel
theorem dX11_readsStep_134 : decode cX11_readsStep 134 = .ok (.iadd, 1) := by decide +kernel
theorem dX11_readsStep_135 : decode cX11_readsStep 135 = .ok (.iload_n 3, 1) := by decide +kernel
theorem dX11_readsStep_136 : decode cX11_readsStep 136 = .ok (.iastore, 1) := by decide +kernel
theorem dX11_readsStep_137 : decode cX11_readsStep 137 = .ok (.aload_n 0, 1) := by decide +kernel
theorem dX11_readsStep_138 : decode cX11_readsStep 138 = .ok (.dup, 1) := by decide +kernel
theorem dX11_readsStep_139 : decode cX11_readsStep 139 = .ok (.getfield 87, 3) := by decide +kernel
theorem dX11_readsStep_142 : decode cX11_readsStep 142 = .ok (.iconst 1, 1) := by decide +kernel
theorem dX11_readsStep_143 : decode cX11_readsStep 143 = .ok (.iadd, 1) := by decide +kernel
theorem dX11_readsStep_144 : decode cX11_readsStep 144 = .ok (.putfield 87, 3) := by decide +kernel
theorem dX11_readsStep_147 : decode cX11_readsStep 147 = .ok (.iconst 1, 1) := by decide +kernel
theorem dX11_readsStep_148 : decode cX11_readsStep 148 = .ok (.ireturn, 1) := by decide +kernel
set_option maxRecDepth 20000 in
theorem ggX11_parsePlan_X11_skips : GoodIn wsX11_parsePlan wsX11_skips := goodIn_r _ [11, 2, 12, 13, 14, 10, 15, 4, 16, 43, 44, 45, 46, 47, 48, 49, 50, 51, 52, 53, 54, 55, 56] (by decide +kernel) (by decide +kernel)
set_option maxRecDepth 20000 in
theorem gX11_parsePlan_X11_skips : GoodIn wsX11_parsePlan (wsV RX11 97 RX11 yX11_skips wsX11_skips) := goodIn_app (goodIn_of _ (by decide +kernel)) ggX11_parsePlan_X11_skips
set_option maxRecDepth 20000 in
theorem ggX11_parsePlan_X11_readsStep : GoodIn wsX11_parsePlan wsX11_readsStep := goodIn_r _ [20, 3, 6, 12, 13, 14, 10, 15, 2, 4, 16, 21, 22, 23, 24, 25, 26, 27, 28, 29, 30, 31, 32, 33, 34, 35, 36, 43, 44, 45, 46, 47, 48, 49, 50, 51, 52, 53, 54, 55, 56] (by decide +kernel) (by decide +kernel)
set_option maxRecDepth 20000 in
theorem gX11_parsePlan_X11_readsStep : GoodIn wsX11_parsePlan (wsV RX11 100 RX11 yX11_readsStep wsX11_readsStep) := goodIn_app (goodIn_of _ (by decide +kernel)) ggX11_parsePlan_X11_readsStep
set_option maxRecDepth 20000 in
theorem ggX11_parsePlan_X11_save : GoodIn wsX11_parsePlan wsX11_save := goodIn_r _ [40, 41, 42, 5, 43, 44, 45, 46, 47, 48, 49, 50, 51, 52, 53, 54, 55, 56] (by decide +kernel) (by decide +kernel)
set_option maxRecDepth 20000 in
theorem gX11_parsePlan_X11_save : GoodIn wsX11_parsePlan (wsV RX11 61 RX11 yX11_save wsX11_save) := goodIn_app (goodIn_of _ (by decide +kernel)) ggX11_parsePlan_X11_save
theorem dX11_parsePlan_0 : decode cX11_parsePlan 0 = .ok (.aload_n 0, 1) := by decide +kernel
theorem dX11_parsePlan_1 : decode cX11_parsePlan 1 = .ok (.iconst 0, 1) := by decide +kernel
theorem dX11_parsePlan_2 : decode cX11_parsePlan 2 = .ok (.putfield 28, 3) := by decide +kernel
theorem dX11_parsePlan_5 : decode cX11_parsePlan 5 = .ok (.aload_n 0, 1) := by decide +kernel
theorem dX11_parsePlan_6 : decode cX11_parsePlan 6 = .ok (.iconst 0, 1) := by decide +kernel
theorem dX11_parsePlan_7 : decode cX11_parsePlan 7 = .ok (.putfield 73, 3) := by decide +kernel
theorem dX11_parsePlan_10 : decode cX11_parsePlan 10 = .ok (.aload_n 0, 1) := by decide +kernel
theorem dX11_parsePlan_11 : decode cX11_parsePlan 11 = .ok (.iconst 0, 1) := by decide +kernel
theorem dX11_parsePlan_12 : decode cX11_parsePlan 12 = .ok (.putfield 87, 3) := by decide +kernel
theorem dX11_parsePlan_15 : decode cX11_parsePlan 15 = .ok (.aload_n 0, 1) := by decide +kernel
theorem dX11_parsePlan_16 : decode cX11_parsePlan 16 = .ok (.invokevirtual 97, 3) := by decide +kernel
theorem dX11_parsePlan_19 : decode cX11_parsePlan 19 = .ok (.aload_n 0, 1) := by decide +kernel
theorem dX11_parsePlan_20 : decode cX11_parsePlan 20 = .ok (.getfield 73, 3) := by decide +kernel
theorem dX11_parsePlan_23 : decode cX11_parsePlan 23 = .ok (.aload_n 0, 1) := by decide +kernel
theorem dX11_parsePlan_24 : decode cX11_parsePlan 24 = .ok (.getfield 70, 3) := by decide +kernel
theorem dX11_parsePlan_27 : decode cX11_parsePlan 27 = .ok (.if_icmp .ge 25, 3) := by decide +kernel
theorem dX11_parsePlan_30 : decode cX11_parsePlan 30 = .ok (.aload_n 0, 1) := by decide +kernel
theorem dX11_parsePlan_31 : decode cX11_parsePlan 31 = .ok (.invokevirtual 100, 3) := by decide +kernel
theorem dX11_parsePlan_34 : decode cX11_parsePlan 34 = .ok (.ifCond .ne 11, 3) := by decide +kernel
theorem dX11_parsePlan_37 : decode cX11_parsePlan 37 = .ok (.bipush (-10), 2) := by decide +kernel
theorem dX11_parsePlan_39 : decode cX11_parsePlan 39 = .ok (.aload_n 0, 1) := by decide +kernel
theorem dX11_parsePlan_40 : decode cX11_parsePlan 40 = .ok (.getfield 73, 3) := by decide +kernel
theorem dX11_parsePlan_43 : decode cX11_parsePlan 43 = .ok (.isub, 1) := by decide +kernel
theorem dX11_parsePlan_44 : decode cX11_parsePlan 44 = .ok (.ireturn, 1) := by decide +kernel
theorem dX11_parsePlan_45 : decode cX11_parsePlan 45 = .ok (.aload_n 0, 1) := by decide +kernel
theorem dX11_parsePlan_46 : decode cX11_parsePlan 46 = .ok (.invokevirtual 97, 3) := by decide +kernel
theorem dX11_parsePlan_49 : decode cX11_parsePlan 49 = .ok (.goto (-30), 3) := by decide +kernel
theorem dX11_parsePlan_52 : decode cX11_parsePlan 52 = .ok (.aload_n 0, 1) := by decide +kernel
theorem dX11_parsePlan_53 : decode cX11_parsePlan 53 = .ok (.invokevirtual 61, 3) := by decide +kernel
theorem dX11_parsePlan_56 : decode cX11_parsePlan 56 = .ok (.iconst 0, 1) := by decide +kernel
theorem dX11_parsePlan_57 : decode cX11_parsePlan 57 = .ok (.istore_n 1, 1) := by decide +kernel
theorem dX11_parsePlan_58 : decode cX11_parsePlan 58 = .ok (.iload_n 1, 1) := by decide +kernel
theorem dX11_parsePlan_59 : decode cX11_parsePlan 59 = .ok (.iconst 3, 1) := by decide +kernel
theorem dX11_parsePlan_60 : decode cX11_parsePlan 60 = .ok (.aload_n 0, 1) := by decide +kernel
theorem dX11_parsePlan_61 : decode cX11_parsePlan 61 = .ok (.getfield 87, 3) := by decide +kernel
theorem dX11_parsePlan_64 : decode cX11_parsePlan 64 = .ok (.imul, 1) := by decide +kernel
theorem dX11_parsePlan_65 : decode cX11_parsePlan 65 = .ok (.if_icmp .ge 24, 3) := by decide +kernel
theorem dX11_parsePlan_68 : decode cX11_parsePlan 68 = .ok (.aload_n 0, 1) := by decide +kernel
theorem dX11_parsePlan_69 : decode cX11_parsePlan 69 = .ok (.getfield 7, 3) := by decide +kernel
theorem dX11_parsePlan_72 : decode cX11_parsePlan 72 = .ok (.bipush 70, 2) := by decide +kernel
theorem dX11_parsePlan_74 : decode cX11_parsePlan 74 = .ok (.iload_n 1, 1) := by decide +kernel
theorem dX11_parsePlan_75 : decode cX11_parsePlan 75 = .ok (.iadd, 1) := by decide +kernel
theorem dX11_parsePlan_76 : decode cX11_parsePlan 76 = .ok (.aload_n 0, 1) := by decide +kernel
theorem dX11_parsePlan_77 : decode cX11_parsePlan 77 = .ok (.getfield 19, 3) := by decide +kernel
theorem dX11_parsePlan_80 : decode cX11_parsePlan 80 = .ok (.iload_n 1, 1) := by decide +kernel
theorem dX11_parsePlan_81 : decode cX11_parsePlan 81 = .ok (.iaload, 1) := by decide +kernel
theorem dX11_parsePlan_82 : decode cX11_parsePlan 82 = .ok (.iastore, 1) := by decide +kernel
theorem dX11_parsePlan_83 : decode cX11_parsePlan 83 = .ok (.iinc 1 1, 3) := by decide +kernel
theorem dX11_parsePlan_86 : decode cX11_parsePlan 86 = .ok (.goto (-28), 3) := by decide +kernel
theorem dX11_parsePlan_89 : decode cX11_parsePlan 89 = .ok (.aload_n 0, 1) := by decide +kernel
theorem dX11_parsePlan_90 : decode cX11_parsePlan 90 = .ok (.getfield 7, 3) := by decide +kernel
theorem dX11_parsePlan_93 : decode cX11_parsePlan 93 = .ok (.bipush 6, 2) := by decide +kernel
theorem dX11_parsePlan_95 : decode cX11_parsePlan 95 = .ok (.aload_n 0, 1) := by decide +kernel
theorem dX11_parsePlan_96 : decode cX11_parsePlan 96 = .ok (.getfield 87, 3) := by decide +kernel
theorem dX11_parsePlan_99 : decode cX11_parsePlan 99 = .ok (.iastore, 1) := by decide +kernel
theorem dX11_parsePlan_100 : decode cX11_parsePlan 100 = .ok (.aload_n 0, 1) := by decide +kernel
theorem dX11_parsePlan_101 : decode cX11_parsePlan 101 = .ok (.getfield 7, 3) := by decide +kernel
theorem dX11_parsePlan_104 : decode cX11_parsePlan 104 = .ok (.bipush 7, 2) := by decide +kernel
theorem dX11_parsePlan_106 : decode cX11_parsePlan 106 = .ok (.iconst 0, 1) := by decide +kernel
theorem dX11_parsePlan_107 : decode cX11_parsePlan 107 = .ok (.iastore, 1) := by decide +kernel
theorem dX11_parsePlan_108 : decode cX11_parsePlan 108 = .ok (.aload_n 0, 1) := by decide +kernel
theorem dX11_parsePlan_109 : decode cX11_parsePlan 109 = .ok (.getfield 7, 3) := by decide +kernel
theorem dX11_parsePlan_112 : decode cX11_parsePlan 112 = .ok (.bipush 8, 2) := by decide +kernel
theorem dX11_parsePlan_114 : decode cX11_parsePlan 114 = .ok (.iconst 0, 1) := by decide +kernel
theorem dX11_parsePlan_115 : decode cX11_parsePlan 115 = .ok (.iastore, 1) := by decide +kernel
theorem dX11_parsePlan_116 : decode cX11_parsePlan 116 = .ok (.aload_n 0, 1) := by decide +kernel
theorem dX11_parsePlan_117 : decode cX11_parsePlan 117 = .ok (.getfield 87, 3) := by decide +kernel
theorem dX11_parsePlan_120 : decode cX11_parsePlan 120 = .ok (.ireturn, 1) := by decide +kernel
theorem dX11_steps_0 : decode cX11_steps 0 = .ok (.aload_n 0, 1) := by decide +kernel
theorem dX11_steps_1 : decode cX11_steps 1 = .ok (.iconst 0, 1) := by decide +kernel
theorem dX11_steps_2 : decode cX11_steps 2 = .ok (.putfield 28, 3) := by decide +kernel
theorem dX11_steps_5 : decode cX11_steps 5 = .ok (.aload_n 0, 1) := by decide +kernel
theorem dX11_steps_6 : decode cX11_steps 6 = .ok (.getfield 7, 3) := by decide +kernel
theorem dX11_steps_9 : decode cX11_steps 9 = .ok (.bipush 6, 2) := by decide +kernel
theorem dX11_steps_11 : decode cX11_steps 11 = .ok (.iaload, 1) := by decide +kernel
theorem dX11_steps_12 : decode cX11_steps 12 = .ok (.ireturn, 1) := by decide +kernel
set_option maxRecDepth 20000 in
theorem ggX11_step_X11_in : GoodIn wsX11_step wsX11_in := goodIn_r _ [6] (by decide +kernel) (by decide +kernel)
set_option maxRecDepth 20000 in
theorem gX11_step_X11_in : GoodIn wsX11_step (va_wsS RX11 37 yX11_in wsX11_in) := goodIn_app (goodIn_of _ (by decide +kernel)) ggX11_step_X11_in
set_option maxRecDepth 20000 in
theorem ggX11_step_X11_goes : GoodIn wsX11_step wsX11_goes := goodIn_r _ [10, 11, 12, 13, 14, 15, 16, 17, 18, 19, 20, 21, 22, 23, 24, 25] (by decide +kernel) (by decide +kernel)
set_option maxRecDepth 20000 in
theorem gX11_step_X11_goes : GoodIn wsX11_step (wsV RX11 57 RX11 yX11_goes wsX11_goes) := goodIn_app (goodIn_of _ (by decide +kernel)) ggX11_step_X11_goes
theorem dX11_step_0 : decode cX11_step 0 = .ok (.aload_n 0, 1) := by decide +kernel
theorem dX11_step_1 : decode cX11_step 1 = .ok (.iload_n 1, 1) := by decide +kernel
theorem dX11_step_2 : decode cX11_step 2 = .ok (.i2l, 1) := by decide +kernel
theorem dX11_step_3 : decode cX11_step 3 = .ok (.lconst 0, 1) := by decide +kernel
theorem dX11_step_4 : decode cX11_step 4 = .ok (.aload_n 0, 1) := by decide +kernel
theorem dX11_step_5 : decode cX11_step 5 = .ok (.getfield 7, 3) := by decide +kernel
theorem dX11_step_8 : decode cX11_step 8 = .ok (.bipush 6, 2) := by decide +kernel
theorem dX11_step_10 : decode cX11_step 10 = .ok (.iaload, 1) := by decide +kernel
theorem dX11_step_11 : decode cX11_step 11 = .ok (.iconst 1, 1) := by decide +kernel
theorem dX11_step_12 : decode cX11_step 12 = .ok (.isub, 1) := by decide +kernel
theorem dX11_step_13 : decode cX11_step 13 = .ok (.i2l, 1) := by decide +kernel
theorem dX11_step_14 : decode cX11_step 14 = .ok (.invokestatic 37, 3) := by decide +kernel
theorem dX11_step_17 : decode cX11_step 17 = .ok (.iload_n 2, 1) := by decide +kernel
theorem dX11_step_18 : decode cX11_step 18 = .ok (.i2l, 1) := by decide +kernel
theorem dX11_step_19 : decode cX11_step 19 = .ok (.lconst 0, 1) := by decide +kernel
theorem dX11_step_20 : decode cX11_step 20 = .ok (.ldc2_w 104, 3) := by decide +kernel
theorem dX11_step_23 : decode cX11_step 23 = .ok (.invokestatic 37, 3) := by decide +kernel
theorem dX11_step_26 : decode cX11_step 26 = .ok (.invokevirtual 57, 3) := by decide +kernel
theorem dX11_step_29 : decode cX11_step 29 = .ok (.ifCond .eq 19, 3) := by decide +kernel
theorem dX11_step_32 : decode cX11_step 32 = .ok (.aload_n 0, 1) := by decide +kernel
theorem dX11_step_33 : decode cX11_step 33 = .ok (.getfield 7, 3) := by decide +kernel
theorem dX11_step_36 : decode cX11_step 36 = .ok (.bipush 70, 2) := by decide +kernel
theorem dX11_step_38 : decode cX11_step 38 = .ok (.iconst 3, 1) := by decide +kernel
theorem dX11_step_39 : decode cX11_step 39 = .ok (.iload_n 1, 1) := by decide +kernel
theorem dX11_step_40 : decode cX11_step 40 = .ok (.imul, 1) := by decide +kernel
theorem dX11_step_41 : decode cX11_step 41 = .ok (.iadd, 1) := by decide +kernel
theorem dX11_step_42 : decode cX11_step 42 = .ok (.iload_n 2, 1) := by decide +kernel
theorem dX11_step_43 : decode cX11_step 43 = .ok (.iadd, 1) := by decide +kernel
theorem dX11_step_44 : decode cX11_step 44 = .ok (.iaload, 1) := by decide +kernel
theorem dX11_step_45 : decode cX11_step 45 = .ok (.goto 4, 3) := by decide +kernel
theorem dX11_step_48 : decode cX11_step 48 = .ok (.iconst 0, 1) := by decide +kernel
theorem dX11_step_49 : decode cX11_step 49 = .ok (.ireturn, 1) := by decide +kernel
theorem dX11_writes_0 : decode cX11_writes 0 = .ok (.aload_n 0, 1) := by decide +kernel
theorem dX11_writes_1 : decode cX11_writes 1 = .ok (.aload_n 0, 1) := by decide +kernel
theorem dX11_writes_2 : decode cX11_writes 2 = .ok (.getfield 106, 3) := by decide +kernel
theorem dX11_writes_5 : decode cX11_writes 5 = .ok (.aload_n 0, 1) := by decide +kernel
theorem dX11_writes_6 : decode cX11_writes 6 = .ok (.getfield 109, 3) := by decide +kernel
theorem dX11_writes_9 : decode cX11_writes 9 = .ok (.if_icmp .ne 7, 3) := by decide +kernel
theorem dX11_writes_12 : decode cX11_writes 12 = .ok (.iload_n 1, 1) := by decide +kernel
theorem dX11_writes_13 : decode cX11_writes 13 = .ok (.goto 7, 3) := by decide +kernel
theorem dX11_writes_16 : decode cX11_writes 16 = .ok (.aload_n 0, 1) := by decide +kernel
theorem dX11_writes_17 : decode cX11_writes 17 = .ok (.getfield 112, 3) := by decide +kernel
theorem dX11_writes_20 : decode cX11_writes 20 = .ok (.putfield 112, 3) := by decide +kernel
theorem dX11_writes_23 : decode cX11_writes 23 = .ok (.aload_n 0, 1) := by decide +kernel
theorem dX11_writes_24 : decode cX11_writes 24 = .ok (.dup, 1) := by decide +kernel
theorem dX11_writes_25 : decode cX11_writes 25 = .ok (.getfield 106, 3) := by decide +kernel
theorem dX11_writes_28 : decode cX11_writes 28 = .ok (.iconst 1, 1) := by decide +kernel
theorem dX11_writes_29 : decode cX11_writes 29 = .ok (.iadd, 1) := by decide +kernel
theorem dX11_writes_30 : decode cX11_writes 30 = .ok (.putfield 106, 3) := by decide +kernel
theorem dX11_writes_33 : decode cX11_writes 33 = .ok (.return_, 1) := by decide +kernel
set_option maxRecDepth 20000 in
theorem ggX11_writesNumber_X11_writes : GoodIn wsX11_writesNumber wsX11_writes := goodIn_r _ [5, 6, 7, 8, 9, 10, 11, 12, 13, 14, 15, 16, 17, 18, 19, 20, 21, 22] (by decide +kernel) (by decide +kernel)
set_option maxRecDepth 20000 in
theorem gX11_writesNumber_X11_writes : GoodIn wsX11_writesNumber (wsV RX11 115 RX11 yX11_writes wsX11_writes) := goodIn_app (goodIn_of _ (by decide +kernel)) ggX11_writesNumber_X11_writes
theorem dX11_writesNumber_0 : decode cX11_writesNumber 0 = .ok (.iload_n 1, 1) := by decide +kernel
theorem dX11_writesNumber_1 : decode cX11_writesNumber 1 = .ok (.bipush 9, 2) := by decide +kernel
theorem dX11_writesNumber_3 : decode cX11_writesNumber 3 = .ok (.if_icmp .le 14, 3) := by decide +kernel
theorem dX11_writesNumber_6 : decode cX11_writesNumber 6 = .ok (.aload_n 0, 1) := by decide +kernel
theorem dX11_writesNumber_7 : decode cX11_writesNumber 7 = .ok (.bipush 48, 2) := by decide +kernel
theorem dX11_writesNumber_9 : decode cX11_writesNumber 9 = .ok (.iload_n 1, 1) := by decide +kernel
theorem dX11_writesNumber_10 : decode cX11_writesNumber 10 = .ok (.bipush 10, 2) := by decide +kernel
theorem dX11_writesNumber_12 : decode cX11_writesNumber 12 = .ok (.idiv, 1) := by decide +kernel
theorem dX11_writesNumber_13 : decode cX11_writesNumber 13 = .ok (.iadd, 1) := by decide +kernel
theorem dX11_writesNumber_14 : decode cX11_writesNumber 14 = .ok (.invokevirtual 115, 3) := by decide +kernel
theorem dX11_writesNumber_17 : decode cX11_writesNumber 17 = .ok (.aload_n 0, 1) := by decide +kernel
theorem dX11_writesNumber_18 : decode cX11_writesNumber 18 = .ok (.bipush 48, 2) := by decide +kernel
theorem dX11_writesNumber_20 : decode cX11_writesNumber 20 = .ok (.iload_n 1, 1) := by decide +kernel
theorem dX11_writesNumber_21 : decode cX11_writesNumber 21 = .ok (.bipush 10, 2) := by decide +kernel
theorem dX11_writesNumber_23 : decode cX11_writesNumber 23 = .ok (.irem, 1) := by decide +kernel
theorem dX11_writesNumber_24 : decode cX11_writesNumber 24 = .ok (.iadd, 1) := by decide +kernel
theorem dX11_writesNumber_25 : decode cX11_writesNumber 25 = .ok (.invokevirtual 115, 3) := by decide +kernel
theorem dX11_writesNumber_28 : decode cX11_writesNumber 28 = .ok (.return_, 1) := by decide +kernel
set_option maxRecDepth 20000 in
theorem ggX11_planByte_X11_goes : GoodIn wsX11_planByte wsX11_goes := goodIn_r _ [9, 10, 19, 20, 21, 22, 23, 24, 25, 26, 27, 28, 29, 30, 31, 32] (by decide +kernel) (by decide +kernel)
set_option maxRecDepth 20000 in
theorem gX11_planByte_X11_goes : GoodIn wsX11_planByte (wsV RX11 57 RX11 yX11_goes wsX11_goes) := goodIn_app (goodIn_of _ (by decide +kernel)) ggX11_planByte_X11_goes
set_option maxRecDepth 20000 in
theorem ggX11_planByte_X11_writesNumber : GoodIn wsX11_planByte wsX11_writesNumber := goodIn_r _ [14, 15, 16, 17, 8, 18, 2, 1, 3, 19, 20, 21, 22, 23, 24, 25, 26, 27, 28, 29, 30, 31, 32] (by decide +kernel) (by decide +kernel)
set_option maxRecDepth 20000 in
theorem gX11_planByte_X11_writesNumber : GoodIn wsX11_planByte (wsV RX11 119 RX11 yX11_writesNumber wsX11_writesNumber) := goodIn_app (goodIn_of _ (by decide +kernel)) ggX11_planByte_X11_writesNumber
set_option maxRecDepth 20000 in
theorem ggX11_planByte_X11_writes : GoodIn wsX11_planByte wsX11_writes := goodIn_r _ [18, 2, 1, 3, 19, 20, 21, 22, 23, 24, 25, 26, 27, 28, 29, 30, 31, 32] (by decide +kernel) (by decide +kernel)
set_option maxRecDepth 20000 in
theorem gX11_planByte_X11_writes : GoodIn wsX11_planByte (wsV RX11 115 RX11 yX11_writes wsX11_writes) := goodIn_app (goodIn_of _ (by decide +kernel)) ggX11_planByte_X11_writes
theorem dX11_planByte_0 : decode cX11_planByte 0 = .ok (.aload_n 0, 1) := by decide +kernel
theorem dX11_planByte_1 : decode cX11_planByte 1 = .ok (.iload_n 1, 1) := by decide +kernel
theorem dX11_planByte_2 : decode cX11_planByte 2 = .ok (.ifCond .lt 7, 3) := by decide +kernel
theorem dX11_planByte_5 : decode cX11_planByte 5 = .ok (.iconst 1, 1) := by decide +kernel
theorem dX11_planByte_6 : decode cX11_planByte 6 = .ok (.goto 4, 3) := by decide +kernel
theorem dX11_planByte_9 : decode cX11_planByte 9 = .ok (.iconst 0, 1) := by decide +kernel
theorem dX11_planByte_10 : decode cX11_planByte 10 = .ok (.iconst 1, 1) := by decide +kernel
theorem dX11_planByte_11 : decode cX11_planByte 11 = .ok (.invokevirtual 57, 3) := by decide +kernel
theorem dX11_planByte_14 : decode cX11_planByte 14 = .ok (.ifCond .ne 5, 3) := by decide +kernel
theorem dX11_planByte_17 : decode cX11_planByte 17 = .ok (.iconst 0, 1) := by decide +kernel
theorem dX11_planByte_18 : decode cX11_planByte 18 = .ok (.ireturn, 1) := by decide +kernel
theorem dX11_planByte_19 : decode cX11_planByte 19 = .ok (.aload_n 0, 1) := by decide +kernel
theorem dX11_planByte_20 : decode cX11_planByte 20 = .ok (.iload_n 1, 1) := by decide +kernel
theorem dX11_planByte_21 : decode cX11_planByte 21 = .ok (.putfield 109, 3) := by decide +kernel
theorem dX11_planByte_24 : decode cX11_planByte 24 = .ok (.aload_n 0, 1) := by decide +kernel
theorem dX11_planByte_25 : decode cX11_planByte 25 = .ok (.iconst 0, 1) := by decide +kernel
theorem dX11_planByte_26 : decode cX11_planByte 26 = .ok (.putfield 106, 3) := by decide +kernel
theorem dX11_planByte_29 : decode cX11_planByte 29 = .ok (.aload_n 0, 1) := by decide +kernel
theorem dX11_planByte_30 : decode cX11_planByte 30 = .ok (.iconst (-1), 1) := by decide +kernel
theorem dX11_planByte_31 : decode cX11_planByte 31 = .ok (.putfield 112, 3) := by decide +kernel
theorem dX11_planByte_34 : decode cX11_planByte 34 = .ok (.iconst 0, 1) := by decide +kernel
theorem dX11_planByte_35 : decode cX11_planByte 35 = .ok (.istore_n 2, 1) := by decide +kernel
theorem dX11_planByte_36 : decode cX11_planByte 36 = .ok (.iload_n 2, 1) := by decide +kernel
theorem dX11_planByte_37 : decode cX11_planByte 37 = .ok (.aload_n 0, 1) := by decide +kernel
theorem dX11_planByte_38 : decode cX11_planByte 38 = .ok (.getfield 7, 3) := by decide +kernel
theorem dX11_planByte_41 : decode cX11_planByte 41 = .ok (.bipush 6, 2) := by decide +kernel
theorem dX11_planByte_43 : decode cX11_planByte 43 = .ok (.iaload, 1) := by decide +kernel
theorem dX11_planByte_44 : decode cX11_planByte 44 = .ok (.if_icmp .ge 85, 3) := by decide +kernel
theorem dX11_planByte_47 : decode cX11_planByte 47 = .ok (.bipush 70, 2) := by decide +kernel
theorem dX11_planByte_49 : decode cX11_planByte 49 = .ok (.iconst 3, 1) := by decide +kernel
theorem dX11_planByte_50 : decode cX11_planByte 50 = .ok (.iload_n 2, 1) := by decide +kernel
theorem dX11_planByte_51 : decode cX11_planByte 51 = .ok (.imul, 1) := by decide +kernel
theorem dX11_planByte_52 : decode cX11_planByte 52 = .ok (.iadd, 1) := by decide +kernel
theorem dX11_planByte_53 : decode cX11_planByte 53 = .ok (.istore_n 3, 1) := by decide +kernel
theorem dX11_planByte_54 : decode cX11_planByte 54 = .ok (.aload_n 0, 1) := by decide +kernel
theorem dX11_planByte_55 : decode cX11_planByte 55 = .ok (.aload_n 0, 1) := by decide +kernel
theorem dX11_planByte_56 : decode cX11_planByte 56 = .ok (.getfield 7, 3) := by decide +kernel
theorem dX11_planByte_59 : decode cX11_planByte 59 = .ok (.iload_n 3, 1) := by decide +kernel
theorem dX11_planByte_60 : decode cX11_planByte 60 = .ok (.iaload, 1) := by decide +kernel
theorem dX11_planByte_61 : decode cX11_planByte 61 = .ok (.invokevirtual 119, 3) := by decide +kernel
theorem dX11_planByte_64 : decode cX11_planByte 64 = .ok (.aload_n 0, 1) := by decide +kernel
theorem dX11_planByte_65 : decode cX11_planByte 65 = .ok (.getfield 7, 3) := by decide +kernel
theorem dX11_planByte_68 : decode cX11_planByte 68 = .ok (.iload_n 3, 1) := by decide +kernel
theorem dX11_planByte_69 : decode cX11_planByte 69 = .ok (.iconst 1, 1) := by decide +kernel
theorem dX11_planByte_70 : decode cX11_planByte 70 = .ok (.iadd, 1) := by decide +kernel
theorem dX11_planByte_71 : decode cX11_planByte 71 = .ok (.iaload, 1) := by decide +kernel
theorem dX11_planByte_72 : decode cX11_planByte 72 = .ok (.aload_n 0, 1) := by decide +kernel
theorem dX11_planByte_73 : decode cX11_planByte 73 = .ok (.getfield 7, 3) := by decide +kernel
theorem dX11_planByte_76 : decode cX11_planByte 76 = .ok (.iload_n 3, 1) := by decide +kernel
theorem dX11_planByte_77 : decode cX11_planByte 77 = .ok (.iaload, 1) := by decide +kernel
theorem dX11_planByte_78 : decode cX11_planByte 78 = .ok (.if_icmp .eq 21, 3) := by decide +kernel
theorem dX11_planByte_81 : decode cX11_planByte 81 = .ok (.aload_n 0, 1) := by decide +kernel
theorem dX11_planByte_82 : decode cX11_planByte 82 = .ok (.bipush 45, 2) := by decide +kernel
theorem dX11_planByte_84 : decode cX11_planByte 84 = .ok (.invokevirtual 115, 3) := by decide +kernel
theorem dX11_planByte_87 : decode cX11_planByte 87 = .ok (.aload_n 0, 1) := by decide +kernel
theorem dX11_planByte_88 : decode cX11_planByte 88 = .ok (.aload_n 0, 1) := by decide +kernel
theorem dX11_planByte_89 : decode cX11_planByte 89 = .ok (.getfield 7, 3) := by decide +kernel
theorem dX11_planByte_92 : decode cX11_planByte 92 = .ok (.iload_n 3, 1) := by decide +kernel
theorem dX11_planByte_93 : decode cX11_planByte 93 = .ok (.iconst 1, 1) := by decide +kernel
theorem dX11_planByte_94 : decode cX11_planByte 94 = .ok (.iadd, 1) := by decide +kernel
theorem dX11_planByte_95 : decode cX11_planByte 95 = .ok (.iaload, 1) := by decide +kernel
theorem dX11_planByte_96 : decode cX11_planByte 96 = .ok (.invokevirtual 119, 3) := by decide +kernel
theorem dX11_planByte_99 : decode cX11_planByte 99 = .ok (.aload_n 0, 1) := by decide +kernel
theorem dX11_planByte_100 : decode cX11_planByte 100 = .ok (.bipush 58, 2) := by decide +kernel
theorem dX11_planByte_102 : decode cX11_planByte 102 = .ok (.invokevirtual 115, 3) := by decide +kernel
theorem dX11_planByte_105 : decode cX11_planByte 105 = .ok (.aload_n 0, 1) := by decide +kernel
theorem dX11_planByte_106 : decode cX11_planByte 106 = .ok (.aload_n 0, 1) := by decide +kernel
theorem dX11_planByte_107 : decode cX11_planByte 107 = .ok (.getfield 7, 3) := by decide +kernel
theorem dX11_planByte_110 : decode cX11_planByte 110 = .ok (.iload_n 3, 1) := by decide +kernel
theorem dX11_planByte_111 : decode cX11_planByte 111 = .ok (.iconst 2, 1) := by decide +kernel
theorem dX11_planByte_112 : decode cX11_planByte 112 = .ok (.iadd, 1) := by decide +kernel
theorem dX11_planByte_113 : decode cX11_planByte 113 = .ok (.iaload, 1) := by decide +kernel
theorem dX11_planByte_114 : decode cX11_planByte 114 = .ok (.invokevirtual 119, 3) := by decide +kernel
theorem dX11_planByte_117 : decode cX11_planByte 117 = .ok (.aload_n 0, 1) := by decide +kernel
theorem dX11_planByte_118 : decode cX11_planByte 118 = .ok (.bipush 59, 2) := by decide +kernel
theorem dX11_planByte_120 : decode cX11_planByte 120 = .ok (.invokevirtual 115, 3) := by decide +kernel
theorem dX11_planByte_123 : decode cX11_planByte 123 = .ok (.iinc 2 1, 3) := by decide +kernel
theorem dX11_planByte_126 : decode cX11_planByte 126 = .ok (.goto (-90), 3) := by decide +kernel
theorem dX11_planByte_129 : decode cX11_planByte 129 = .ok (.aload_n 0, 1) := by decide +kernel
theorem dX11_planByte_130 : decode cX11_planByte 130 = .ok (.getfield 112, 3) := by decide +kernel
theorem dX11_planByte_133 : decode cX11_planByte 133 = .ok (.ireturn, 1) := by decide +kernel
set_option maxRecDepth 20000 in
theorem ggX11_covers_X11_in : GoodIn wsX11_covers wsX11_in := goodIn_r _ [5] (by decide +kernel) (by decide +kernel)
set_option maxRecDepth 20000 in
theorem gX11_covers_X11_in : GoodIn wsX11_covers (va_wsS RX11 37 yX11_in wsX11_in) := goodIn_app (goodIn_of _ (by decide +kernel)) ggX11_covers_X11_in
theorem dX11_covers_0 : decode cX11_covers 0 = .ok (.iload_n 2, 1) := by decide +kernel
theorem dX11_covers_1 : decode cX11_covers 1 = .ok (.i2l, 1) := by decide +kernel
theorem dX11_covers_2 : decode cX11_covers 2 = .ok (.aload_n 0, 1) := by decide +kernel
theorem dX11_covers_3 : decode cX11_covers 3 = .ok (.getfield 7, 3) := by decide +kernel
theorem dX11_covers_6 : decode cX11_covers 6 = .ok (.bipush 70, 2) := by decide +kernel
theorem dX11_covers_8 : decode cX11_covers 8 = .ok (.iconst 3, 1) := by decide +kernel
theorem dX11_covers_9 : decode cX11_covers 9 = .ok (.iload_n 1, 1) := by decide +kernel
theorem dX11_covers_10 : decode cX11_covers 10 = .ok (.imul, 1) := by decide +kernel
theorem dX11_covers_11 : decode cX11_covers 11 = .ok (.iadd, 1) := by decide +kernel
theorem dX11_covers_12 : decode cX11_covers 12 = .ok (.iaload, 1) := by decide +kernel
theorem dX11_covers_13 : decode cX11_covers 13 = .ok (.i2l, 1) := by decide +kernel
theorem dX11_covers_14 : decode cX11_covers 14 = .ok (.aload_n 0, 1) := by decide +kernel
theorem dX11_covers_15 : decode cX11_covers 15 = .ok (.getfield 7, 3) := by decide +kernel
theorem dX11_covers_18 : decode cX11_covers 18 = .ok (.bipush 70, 2) := by decide +kernel
theorem dX11_covers_20 : decode cX11_covers 20 = .ok (.iconst 3, 1) := by decide +kernel
theorem dX11_covers_21 : decode cX11_covers 21 = .ok (.iload_n 1, 1) := by decide +kernel
theorem dX11_covers_22 : decode cX11_covers 22 = .ok (.imul, 1) := by decide +kernel
theorem dX11_covers_23 : decode cX11_covers 23 = .ok (.iadd, 1) := by decide +kernel
theorem dX11_covers_24 : decode cX11_covers 24 = .ok (.iconst 1, 1) := by decide +kernel
theorem dX11_covers_25 : decode cX11_covers 25 = .ok (.iadd, 1) := by decide +kernel
theorem dX11_covers_26 : decode cX11_covers 26 = .ok (.iaload, 1) := by decide +kernel
theorem dX11_covers_27 : decode cX11_covers 27 = .ok (.i2l, 1) := by decide +kernel
theorem dX11_covers_28 : decode cX11_covers 28 = .ok (.invokestatic 37, 3) := by decide +kernel
theorem dX11_covers_31 : decode cX11_covers 31 = .ok (.ireturn, 1) := by decide +kernel
set_option maxRecDepth 20000 in
theorem ggX11_revisit_X11_isChannel : GoodIn wsX11_revisit wsX11_isChannel := goodIn_r _ [5, 6, 7, 8, 4, 9] (by decide +kernel) (by decide +kernel)
set_option maxRecDepth 20000 in
theorem gX11_revisit_X11_isChannel : GoodIn wsX11_revisit (va_wsS RX11 45 yX11_isChannel wsX11_isChannel) := goodIn_app (goodIn_of _ (by decide +kernel)) ggX11_revisit_X11_isChannel
set_option maxRecDepth 20000 in
theorem ggX11_revisit_X11_goes : GoodIn wsX11_revisit wsX11_goes := goodIn_r _ [13, 14, 19, 20, 21, 22, 23, 24, 25, 26, 27, 28, 29, 30, 31, 32] (by decide +kernel) (by decide +kernel)
set_option maxRecDepth 20000 in
theorem gX11_revisit_X11_goes : GoodIn wsX11_revisit (wsV RX11 57 RX11 yX11_goes wsX11_goes) := goodIn_app (goodIn_of _ (by decide +kernel)) ggX11_revisit_X11_goes
set_option maxRecDepth 20000 in
theorem ggX11_revisit_X11_covers : GoodIn wsX11_revisit wsX11_covers := goodIn_r _ [18, 1, 7, 8, 4, 9, 19, 20, 21, 22, 23, 24, 25, 26, 27, 28, 29, 30, 31, 32] (by decide +kernel) (by decide +kernel)
set_option maxRecDepth 20000 in
theorem gX11_revisit_X11_covers : GoodIn wsX11_revisit (wsV RX11 122 RX11 yX11_covers wsX11_covers) := goodIn_app (goodIn_of _ (by decide +kernel)) ggX11_revisit_X11_covers
theorem dX11_revisit_0 : decode cX11_revisit 0 = .ok (.aload_n 0, 1) := by decide +kernel
theorem dX11_revisit_1 : decode cX11_revisit 1 = .ok (.iload_n 1, 1) := by decide +kernel
theorem dX11_revisit_2 : decode cX11_revisit 2 = .ok (.invokestatic 45, 3) := by decide +kernel
theorem dX11_revisit_5 : decode cX11_revisit 5 = .ok (.iconst 1, 1) := by decide +kernel
theorem dX11_revisit_6 : decode cX11_revisit 6 = .ok (.invokevirtual 57, 3) := by decide +kernel
theorem dX11_revisit_9 : decode cX11_revisit 9 = .ok (.ifCond .ne 5, 3) := by decide +kernel
theorem dX11_revisit_12 : decode cX11_revisit 12 = .ok (.iconst 0, 1) := by decide +kernel
theorem dX11_revisit_13 : decode cX11_revisit 13 = .ok (.ireturn, 1) := by decide +kernel
theorem dX11_revisit_14 : decode cX11_revisit 14 = .ok (.iconst 0, 1) := by decide +kernel
theorem dX11_revisit_15 : decode cX11_revisit 15 = .ok (.istore_n 2, 1) := by decide +kernel
theorem dX11_revisit_16 : decode cX11_revisit 16 = .ok (.iconst (-1), 1) := by decide +kernel
theorem dX11_revisit_17 : decode cX11_revisit 17 = .ok (.istore_n 3, 1) := by decide +kernel
theorem dX11_revisit_18 : decode cX11_revisit 18 = .ok (.iconst (-1), 1) := by decide +kernel
theorem dX11_revisit_19 : decode cX11_revisit 19 = .ok (.istore 4, 2) := by decide +kernel
theorem dX11_revisit_21 : decode cX11_revisit 21 = .ok (.iconst 0, 1) := by decide +kernel
theorem dX11_revisit_22 : decode cX11_revisit 22 = .ok (.istore 5, 2) := by decide +kernel
theorem dX11_revisit_24 : decode cX11_revisit 24 = .ok (.iload 5, 2) := by decide +kernel
theorem dX11_revisit_26 : decode cX11_revisit 26 = .ok (.iconst 2, 1) := by decide +kernel
theorem dX11_revisit_27 : decode cX11_revisit 27 = .ok (.aload_n 0, 1) := by decide +kernel
theorem dX11_revisit_28 : decode cX11_revisit 28 = .ok (.getfield 7, 3) := by decide +kernel
theorem dX11_revisit_31 : decode cX11_revisit 31 = .ok (.bipush 6, 2) := by decide +kernel
theorem dX11_revisit_33 : decode cX11_revisit 33 = .ok (.iaload, 1) := by decide +kernel
theorem dX11_revisit_34 : decode cX11_revisit 34 = .ok (.imul, 1) := by decide +kernel
theorem dX11_revisit_35 : decode cX11_revisit 35 = .ok (.if_icmp .ge 87, 3) := by decide +kernel
theorem dX11_revisit_38 : decode cX11_revisit 38 = .ok (.iload 5, 2) := by decide +kernel
theorem dX11_revisit_40 : decode cX11_revisit 40 = .ok (.aload_n 0, 1) := by decide +kernel
theorem dX11_revisit_41 : decode cX11_revisit 41 = .ok (.getfield 7, 3) := by decide +kernel
theorem dX11_revisit_44 : decode cX11_revisit 44 = .ok (.bipush 6, 2) := by decide +kernel
theorem dX11_revisit_46 : decode cX11_revisit 46 = .ok (.iaload, 1) := by decide +kernel
theorem dX11_revisit_47 : decode cX11_revisit 47 = .ok (.irem, 1) := by decide +kernel
theorem dX11_revisit_48 : decode cX11_revisit 48 = .ok (.istore 6, 2) := by decide +kernel
theorem dX11_revisit_50 : decode cX11_revisit 50 = .ok (.iconst 0, 1) := by decide +kernel
theorem dX11_revisit_51 : decode cX11_revisit 51 = .ok (.istore 7, 2) := by decide +kernel
theorem dX11_revisit_53 : decode cX11_revisit 53 = .ok (.iload 7, 2) := by decide +kernel
theorem dX11_revisit_55 : decode cX11_revisit 55 = .ok (.aload_n 0, 1) := by decide +kernel
theorem dX11_revisit_56 : decode cX11_revisit 56 = .ok (.getfield 7, 3) := by decide +kernel
theorem dX11_revisit_59 : decode cX11_revisit 59 = .ok (.bipush 70, 2) := by decide +kernel
theorem dX11_revisit_61 : decode cX11_revisit 61 = .ok (.iconst 3, 1) := by decide +kernel
theorem dX11_revisit_62 : decode cX11_revisit 62 = .ok (.iload 6, 2) := by decide +kernel
theorem dX11_revisit_64 : decode cX11_revisit 64 = .ok (.imul, 1) := by decide +kernel
theorem dX11_revisit_65 : decode cX11_revisit 65 = .ok (.iadd, 1) := by decide +kernel
theorem dX11_revisit_66 : decode cX11_revisit 66 = .ok (.iconst 2, 1) := by decide +kernel
theorem dX11_revisit_67 : decode cX11_revisit 67 = .ok (.iadd, 1) := by decide +kernel
theorem dX11_revisit_68 : decode cX11_revisit 68 = .ok (.iaload, 1) := by decide +kernel
theorem dX11_revisit_69 : decode cX11_revisit 69 = .ok (.if_icmp .ge 47, 3) := by decide +kernel
theorem dX11_revisit_72 : decode cX11_revisit 72 = .ok (.aload_n 0, 1) := by decide +kernel
theorem dX11_revisit_73 : decode cX11_revisit 73 = .ok (.iload 6, 2) := by decide +kernel
theorem dX11_revisit_75 : decode cX11_revisit 75 = .ok (.iload_n 1, 1) := by decide +kernel
theorem dX11_revisit_76 : decode cX11_revisit 76 = .ok (.invokevirtual 122, 3) := by decide +kernel
theorem dX11_revisit_79 : decode cX11_revisit 79 = .ok (.ifCond .eq 28, 3) := by decide +kernel
theorem dX11_revisit_82 : decode cX11_revisit 82 = .ok (.iload_n 3, 1) := by decide +kernel
theorem dX11_revisit_83 : decode cX11_revisit 83 = .ok (.iconst (-1), 1) := by decide +kernel
theorem dX11_revisit_84 : decode cX11_revisit 84 = .ok (.if_icmp .eq 17, 3) := by decide +kernel
theorem dX11_revisit_87 : decode cX11_revisit 87 = .ok (.iload_n 2, 1) := by decide +kernel
theorem dX11_revisit_88 : decode cX11_revisit 88 = .ok (.iload_n 3, 1) := by decide +kernel
theorem dX11_revisit_89 : decode cX11_revisit 89 = .ok (.isub, 1) := by decide +kernel
theorem dX11_revisit_90 : decode cX11_revisit 90 = .ok (.iload 4, 2) := by decide +kernel
theorem dX11_revisit_92 : decode cX11_revisit 92 = .ok (.if_icmp .le 9, 3) := by decide +kernel
theorem dX11_revisit_95 : decode cX11_revisit 95 = .ok (.iload_n 2, 1) := by decide +kernel
theorem dX11_revisit_96 : decode cX11_revisit 96 = .ok (.iload_n 3, 1) := by decide +kernel
theorem dX11_revisit_97 : decode cX11_revisit 97 = .ok (.isub, 1) := by decide +kernel
theorem dX11_revisit_98 : decode cX11_revisit 98 = .ok (.goto 5, 3) := by decide +kernel
theorem dX11_revisit_101 : decode cX11_revisit 101 = .ok (.iload 4, 2) := by decide +kernel
theorem dX11_revisit_103 : decode cX11_revisit 103 = .ok (.istore 4, 2) := by decide +kernel
theorem dX11_revisit_105 : decode cX11_revisit 105 = .ok (.iload_n 2, 1) := by decide +kernel
theorem dX11_revisit_106 : decode cX11_revisit 106 = .ok (.istore_n 3, 1) := by decide +kernel
theorem dX11_revisit_107 : decode cX11_revisit 107 = .ok (.iinc 2 1, 3) := by decide +kernel
theorem dX11_revisit_110 : decode cX11_revisit 110 = .ok (.iinc 7 1, 3) := by decide +kernel
theorem dX11_revisit_113 : decode cX11_revisit 113 = .ok (.goto (-60), 3) := by decide +kernel
theorem dX11_revisit_116 : decode cX11_revisit 116 = .ok (.iinc 5 1, 3) := by decide +kernel
theorem dX11_revisit_119 : decode cX11_revisit 119 = .ok (.goto (-95), 3) := by decide +kernel
theorem dX11_revisit_122 : decode cX11_revisit 122 = .ok (.iload 4, 2) := by decide +kernel
theorem dX11_revisit_124 : decode cX11_revisit 124 = .ok (.ireturn, 1) := by decide +kernel
theorem dX11_levelNow_0 : decode cX11_levelNow 0 = .ok (.aload_n 0, 1) := by decide +kernel
theorem dX11_levelNow_1 : decode cX11_levelNow 1 = .ok (.getfield 7, 3) := by decide +kernel
theorem dX11_levelNow_4 : decode cX11_levelNow 4 = .ok (.iconst 1, 1) := by decide +kernel
theorem dX11_levelNow_5 : decode cX11_levelNow 5 = .ok (.iaload, 1) := by decide +kernel
theorem dX11_levelNow_6 : decode cX11_levelNow 6 = .ok (.istore_n 2, 1) := by decide +kernel
theorem dX11_levelNow_7 : decode cX11_levelNow 7 = .ok (.aload_n 0, 1) := by decide +kernel
theorem dX11_levelNow_8 : decode cX11_levelNow 8 = .ok (.getfield 7, 3) := by decide +kernel
theorem dX11_levelNow_11 : decode cX11_levelNow 11 = .ok (.iconst 0, 1) := by decide +kernel
theorem dX11_levelNow_12 : decode cX11_levelNow 12 = .ok (.iaload, 1) := by decide +kernel
theorem dX11_levelNow_13 : decode cX11_levelNow 13 = .ok (.istore_n 3, 1) := by decide +kernel
theorem dX11_levelNow_14 : decode cX11_levelNow 14 = .ok (.iconst 0, 1) := by decide +kernel
theorem dX11_levelNow_15 : decode cX11_levelNow 15 = .ok (.istore 4, 2) := by decide +kernel
theorem dX11_levelNow_17 : decode cX11_levelNow 17 = .ok (.iload 4, 2) := by decide +kernel
theorem dX11_levelNow_19 : decode cX11_levelNow 19 = .ok (.aload_n 0, 1) := by decide +kernel
theorem dX11_levelNow_20 : decode cX11_levelNow 20 = .ok (.getfield 7, 3) := by decide +kernel
theorem dX11_levelNow_23 : decode cX11_levelNow 23 = .ok (.iconst 5, 1) := by decide +kernel
theorem dX11_levelNow_24 : decode cX11_levelNow 24 = .ok (.iaload, 1) := by decide +kernel
theorem dX11_levelNow_25 : decode cX11_levelNow 25 = .ok (.if_icmp .ge 214, 3) := by decide +kernel
theorem dX11_levelNow_28 : decode cX11_levelNow 28 = .ok (.bipush 10, 2) := by decide +kernel
theorem dX11_levelNow_30 : decode cX11_levelNow 30 = .ok (.bipush 6, 2) := by decide +kernel
theorem dX11_levelNow_32 : decode cX11_levelNow 32 = .ok (.iload 4, 2) := by decide +kernel
theorem dX11_levelNow_34 : decode cX11_levelNow 34 = .ok (.imul, 1) := by decide +kernel
theorem dX11_levelNow_35 : decode cX11_levelNow 35 = .ok (.iadd, 1) := by decide +kernel
theorem dX11_levelNow_36 : decode cX11_levelNow 36 = .ok (.istore 5, 2) := by decide +kernel
theorem dX11_levelNow_38 : decode cX11_levelNow 38 = .ok (.aload_n 0, 1) := by decide +kernel
theorem dX11_levelNow_39 : decode cX11_levelNow 39 = .ok (.getfield 7, 3) := by decide +kernel
theorem dX11_levelNow_42 : decode cX11_levelNow 42 = .ok (.iload 5, 2) := by decide +kernel
theorem dX11_levelNow_44 : decode cX11_levelNow 44 = .ok (.iaload, 1) := by decide +kernel
theorem dX11_levelNow_45 : decode cX11_levelNow 45 = .ok (.iconst 1, 1) := by decide +kernel
theorem dX11_levelNow_46 : decode cX11_levelNow 46 = .ok (.if_icmp .ne 7, 3) := by decide +kernel
theorem dX11_levelNow_49 : decode cX11_levelNow 49 = .ok (.iconst 1, 1) := by decide +kernel
theorem dX11_levelNow_50 : decode cX11_levelNow 50 = .ok (.goto 4, 3) := by decide +kernel
theorem dX11_levelNow_53 : decode cX11_levelNow 53 = .ok (.iconst 0, 1) := by decide +kernel
theorem dX11_levelNow_54 : decode cX11_levelNow 54 = .ok (.istore 6, 2) := by decide +kernel
theorem dX11_levelNow_56 : decode cX11_levelNow 56 = .ok (.iload_n 3, 1) := by decide +kernel
theorem dX11_levelNow_57 : decode cX11_levelNow 57 = .ok (.iload 6, 2) := by decide +kernel
theorem dX11_levelNow_59 : decode cX11_levelNow 59 = .ok (.ifCond .eq 15, 3) := by decide +kernel
theorem dX11_levelNow_62 : decode cX11_levelNow 62 = .ok (.aload_n 0, 1) := by decide +kernel
theorem dX11_levelNow_63 : decode cX11_levelNow 63 = .ok (.getfield 7, 3) := by decide +kernel
theorem dX11_levelNow_66 : decode cX11_levelNow 66 = .ok (.iload 5, 2) := by decide +kernel
theorem dX11_levelNow_68 : decode cX11_levelNow 68 = .ok (.iconst 5, 1) := by decide +kernel
theorem dX11_levelNow_69 : decode cX11_levelNow 69 = .ok (.iadd, 1) := by decide +kernel
theorem dX11_levelNow_70 : decode cX11_levelNow 70 = .ok (.iaload, 1) := by decide +kernel
theorem dX11_levelNow_71 : decode cX11_levelNow 71 = .ok (.goto 12, 3) := by decide +kernel
theorem dX11_levelNow_74 : decode cX11_levelNow 74 = .ok (.aload_n 0, 1) := by decide +kernel
theorem dX11_levelNow_75 : decode cX11_levelNow 75 = .ok (.getfield 7, 3) := by decide +kernel
theorem dX11_levelNow_78 : decode cX11_levelNow 78 = .ok (.iload 5, 2) := by decide +kernel
theorem dX11_levelNow_80 : decode cX11_levelNow 80 = .ok (.iconst 3, 1) := by decide +kernel
theorem dX11_levelNow_81 : decode cX11_levelNow 81 = .ok (.iadd, 1) := by decide +kernel
theorem dX11_levelNow_82 : decode cX11_levelNow 82 = .ok (.iaload, 1) := by decide +kernel
theorem dX11_levelNow_83 : decode cX11_levelNow 83 = .ok (.isub, 1) := by decide +kernel
theorem dX11_levelNow_84 : decode cX11_levelNow 84 = .ok (.istore 7, 2) := by decide +kernel
theorem dX11_levelNow_86 : decode cX11_levelNow 86 = .ok (.iload 7, 2) := by decide +kernel
theorem dX11_levelNow_88 : decode cX11_levelNow 88 = .ok (.ifCond .lt 145, 3) := by decide +kernel
theorem dX11_levelNow_91 : decode cX11_levelNow 91 = .ok (.iload 6, 2) := by decide +kernel
theorem dX11_levelNow_93 : decode cX11_levelNow 93 = .ok (.ifCond .eq 50, 3) := by decide +kernel
theorem dX11_levelNow_96 : decode cX11_levelNow 96 = .ok (.aload_n 0, 1) := by decide +kernel
theorem dX11_levelNow_97 : decode cX11_levelNow 97 = .ok (.getfield 7, 3) := by decide +kernel
theorem dX11_levelNow_100 : decode cX11_levelNow 100 = .ok (.iload 5, 2) := by decide +kernel
theorem dX11_levelNow_102 : decode cX11_levelNow 102 = .ok (.iconst 1, 1) := by decide +kernel
theorem dX11_levelNow_103 : decode cX11_levelNow 103 = .ok (.iadd, 1) := by decide +kernel
theorem dX11_levelNow_104 : decode cX11_levelNow 104 = .ok (.iaload, 1) := by decide +kernel
theorem dX11_levelNow_105 : decode cX11_levelNow 105 = .ok (.aload_n 0, 1) := by decide +kernel
theorem dX11_levelNow_106 : decode cX11_levelNow 106 = .ok (.getfield 7, 3) := by decide +kernel
theorem dX11_levelNow_109 : decode cX11_levelNow 109 = .ok (.iload 5, 2) := by decide +kernel
theorem dX11_levelNow_111 : decode cX11_levelNow 111 = .ok (.iconst 2, 1) := by decide +kernel
theorem dX11_levelNow_112 : decode cX11_levelNow 112 = .ok (.iadd, 1) := by decide +kernel
theorem dX11_levelNow_113 : decode cX11_levelNow 113 = .ok (.iaload, 1) := by decide +kernel
theorem dX11_levelNow_114 : decode cX11_levelNow 114 = .ok (.iload 7, 2) := by decide +kernel
theorem dX11_levelNow_116 : decode cX11_levelNow 116 = .ok (.aload_n 0, 1) := by decide +kernel
theorem dX11_levelNow_117 : decode cX11_levelNow 117 = .ok (.getfield 7, 3) := by decide +kernel
theorem dX11_levelNow_120 : decode cX11_levelNow 120 = .ok (.iload 5, 2) := by decide +kernel
theorem dX11_levelNow_122 : decode cX11_levelNow 122 = .ok (.iconst 3, 1) := by decide +kernel
theorem dX11_levelNow_123 : decode cX11_levelNow 123 = .ok (.iadd, 1) := by decide +kernel
theorem dX11_levelNow_124 : decode cX11_levelNow 124 = .ok (.iaload, 1) := by decide +kernel
theorem dX11_levelNow_125 : decode cX11_levelNow 125 = .ok (.idiv, 1) := by decide +kernel
theorem dX11_levelNow_126 : decode cX11_levelNow 126 = .ok (.imul, 1) := by decide +kernel
theorem dX11_levelNow_127 : decode cX11_levelNow 127 = .ok (.iadd, 1) := by decide +kernel
theorem dX11_levelNow_128 : decode cX11_levelNow 128 = .ok (.bipush 32, 2) := by decide +kernel
theorem dX11_levelNow_130 : decode cX11_levelNow 130 = .ok (.irem, 1) := by decide +kernel
theorem dX11_levelNow_131 : decode cX11_levelNow 131 = .ok (.iload_n 1, 1) := by decide +kernel
theorem dX11_levelNow_132 : decode cX11_levelNow 132 = .ok (.if_icmp .ne 7, 3) := by decide +kernel
theorem dX11_levelNow_135 : decode cX11_levelNow 135 = .ok (.iconst 1, 1) := by decide +kernel
theorem dX11_levelNow_136 : decode cX11_levelNow 136 = .ok (.goto 49, 3) := by decide +kernel
theorem dX11_levelNow_139 : decode cX11_levelNow 139 = .ok (.iconst 0, 1) := by decide +kernel
theorem dX11_levelNow_140 : decode cX11_levelNow 140 = .ok (.goto 45, 3) := by decide +kernel
theorem dX11_levelNow_143 : decode cX11_levelNow 143 = .ok (.aload_n 0, 1) := by decide +kernel
theorem dX11_levelNow_144 : decode cX11_levelNow 144 = .ok (.getfield 7, 3) := by decide +kernel
theorem dX11_levelNow_147 : decode cX11_levelNow 147 = .ok (.iload 5, 2) := by decide +kernel
theorem dX11_levelNow_149 : decode cX11_levelNow 149 = .ok (.iconst 1, 1) := by decide +kernel
theorem dX11_levelNow_150 : decode cX11_levelNow 150 = .ok (.iadd, 1) := by decide +kernel
theorem dX11_levelNow_151 : decode cX11_levelNow 151 = .ok (.iaload, 1) := by decide +kernel
theorem dX11_levelNow_152 : decode cX11_levelNow 152 = .ok (.iload_n 1, 1) := by decide +kernel
theorem dX11_levelNow_153 : decode cX11_levelNow 153 = .ok (.if_icmp .ne 31, 3) := by decide +kernel
theorem dX11_levelNow_156 : decode cX11_levelNow 156 = .ok (.iload 7, 2) := by decide +kernel
theorem dX11_levelNow_158 : decode cX11_levelNow 158 = .ok (.aload_n 0, 1) := by decide +kernel
theorem dX11_levelNow_159 : decode cX11_levelNow 159 = .ok (.getfield 7, 3) := by decide +kernel
theorem dX11_levelNow_162 : decode cX11_levelNow 162 = .ok (.iload 5, 2) := by decide +kernel
theorem dX11_levelNow_164 : decode cX11_levelNow 164 = .ok (.iconst 5, 1) := by decide +kernel
theorem dX11_levelNow_165 : decode cX11_levelNow 165 = .ok (.iadd, 1) := by decide +kernel
theorem dX11_levelNow_166 : decode cX11_levelNow 166 = .ok (.iaload, 1) := by decide +kernel
theorem dX11_levelNow_167 : decode cX11_levelNow 167 = .ok (.irem, 1) := by decide +kernel
theorem dX11_levelNow_168 : decode cX11_levelNow 168 = .ok (.aload_n 0, 1) := by decide +kernel
theorem dX11_levelNow_169 : decode cX11_levelNow 169 = .ok (.getfield 7, 3) := by decide +kernel
theorem dX11_levelNow_172 : decode cX11_levelNow 172 = .ok (.iload 5, 2) := by decide +kernel
theorem dX11_levelNow_174 : decode cX11_levelNow 174 = .ok (.iconst 4, 1) := by decide +kernel
theorem dX11_levelNow_175 : decode cX11_levelNow 175 = .ok (.iadd, 1) := by decide +kernel
theorem dX11_levelNow_176 : decode cX11_levelNow 176 = .ok (.iaload, 1) := by decide +kernel
theorem dX11_levelNow_177 : decode cX11_levelNow 177 = .ok (.if_icmp .ge 7, 3) := by decide +kernel
theorem dX11_levelNow_180 : decode cX11_levelNow 180 = .ok (.iconst 1, 1) := by decide +kernel
theorem dX11_levelNow_181 : decode cX11_levelNow 181 = .ok (.goto 4, 3) := by decide +kernel
theorem dX11_levelNow_184 : decode cX11_levelNow 184 = .ok (.iconst 0, 1) := by decide +kernel
theorem dX11_levelNow_185 : decode cX11_levelNow 185 = .ok (.istore 8, 2) := by decide +kernel
theorem dX11_levelNow_187 : decode cX11_levelNow 187 = .ok (.iload 6, 2) := by decide +kernel
theorem dX11_levelNow_189 : decode cX11_levelNow 189 = .ok (.ifCond .eq 15, 3) := by decide +kernel
theorem dX11_levelNow_192 : decode cX11_levelNow 192 = .ok (.aload_n 0, 1) := by decide +kernel
theorem dX11_levelNow_193 : decode cX11_levelNow 193 = .ok (.getfield 7, 3) := by decide +kernel
theorem dX11_levelNow_196 : decode cX11_levelNow 196 = .ok (.iload 5, 2) := by decide +kernel
theorem dX11_levelNow_198 : decode cX11_levelNow 198 = .ok (.iconst 4, 1) := by decide +kernel
theorem dX11_levelNow_199 : decode cX11_levelNow 199 = .ok (.iadd, 1) := by decide +kernel
theorem dX11_levelNow_200 : decode cX11_levelNow 200 = .ok (.iaload, 1) := by decide +kernel
theorem dX11_levelNow_201 : decode cX11_levelNow 201 = .ok (.goto 12, 3) := by decide +kernel
theorem dX11_levelNow_204 : decode cX11_levelNow 204 = .ok (.aload_n 0, 1) := by decide +kernel
theorem dX11_levelNow_205 : decode cX11_levelNow 205 = .ok (.getfield 7, 3) := by decide +kernel
theorem dX11_levelNow_208 : decode cX11_levelNow 208 = .ok (.iload 5, 2) := by decide +kernel
theorem dX11_levelNow_210 : decode cX11_levelNow 210 = .ok (.iconst 2, 1) := by decide +kernel
theorem dX11_levelNow_211 : decode cX11_levelNow 211 = .ok (.iadd, 1) := by decide +kernel
theorem dX11_levelNow_212 : decode cX11_levelNow 212 = .ok (.iaload, 1) := by decide +kernel
theorem dX11_levelNow_213 : decode cX11_levelNow 213 = .ok (.istore 9, 2) := by decide +kernel
theorem dX11_levelNow_215 : decode cX11_levelNow 215 = .ok (.iload 8, 2) := by decide +kernel
theorem dX11_levelNow_217 : decode cX11_levelNow 217 = .ok (.ifCond .eq 14, 3) := by decide +kernel
theorem dX11_levelNow_220 : decode cX11_levelNow 220 = .ok (.iload 9, 2) := by decide +kernel
theorem dX11_levelNow_222 : decode cX11_levelNow 222 = .ok (.iload_n 2, 1) := by decide +kernel
theorem dX11_levelNow_223 : decode cX11_levelNow 223 = .ok (.if_icmp .le 8, 3) := by decide +kernel
theorem dX11_levelNow_226 : decode cX11_levelNow 226 = .ok (.iload 9, 2) := by decide +kernel
theorem dX11_levelNow_228 : decode cX11_levelNow 228 = .ok (.goto 4, 3) := by decide +kernel
theorem dX11_levelNow_231 : decode cX11_levelNow 231 = .ok (.iload_n 2, 1) := by decide +kernel
theorem dX11_levelNow_232 : decode cX11_levelNow 232 = .ok (.istore_n 2, 1) := by decide +kernel
theorem dX11_levelNow_233 : decode cX11_levelNow 233 = .ok (.iinc 4 1, 3) := by decide +kernel
theorem dX11_levelNow_236 : decode cX11_levelNow 236 = .ok (.goto (-219), 3) := by decide +kernel
theorem dX11_levelNow_239 : decode cX11_levelNow 239 = .ok (.iload_n 2, 1) := by decide +kernel
theorem dX11_levelNow_240 : decode cX11_levelNow 240 = .ok (.ireturn, 1) := by decide +kernel
theorem dX11_eventAt_0 : decode cX11_eventAt 0 = .ok (.sipush 554, 3) := by decide +kernel
theorem dX11_eventAt_3 : decode cX11_eventAt 3 = .ok (.iconst 5, 1) := by decide +kernel
theorem dX11_eventAt_4 : decode cX11_eventAt 4 = .ok (.iload_n 0, 1) := by decide +kernel
theorem dX11_eventAt_5 : decode cX11_eventAt 5 = .ok (.imul, 1) := by decide +kernel
theorem dX11_eventAt_6 : decode cX11_eventAt 6 = .ok (.iadd, 1) := by decide +kernel
theorem dX11_eventAt_7 : decode cX11_eventAt 7 = .ok (.iload_n 1, 1) := by decide +kernel
theorem dX11_eventAt_8 : decode cX11_eventAt 8 = .ok (.iadd, 1) := by decide +kernel
theorem dX11_eventAt_9 : decode cX11_eventAt 9 = .ok (.ireturn, 1) := by decide +kernel
set_option maxRecDepth 20000 in
theorem ggX11_openIn_X11_eventAt : GoodIn wsX11_openIn wsX11_eventAt := goodIn_r _ [5] (by decide +kernel) (by decide +kernel)
set_option maxRecDepth 20000 in
theorem gX11_openIn_X11_eventAt : GoodIn wsX11_openIn (va_wsS RX11 126 yX11_eventAt wsX11_eventAt) := goodIn_app (goodIn_of _ (by decide +kernel)) ggX11_openIn_X11_eventAt
theorem dX11_openIn_0 : decode cX11_openIn 0 = .ok (.iconst 0, 1) := by decide +kernel
theorem dX11_openIn_1 : decode cX11_openIn 1 = .ok (.istore_n 2, 1) := by decide +kernel
theorem dX11_openIn_2 : decode cX11_openIn 2 = .ok (.iload_n 2, 1) := by decide +kernel
theorem dX11_openIn_3 : decode cX11_openIn 3 = .ok (.aload_n 0, 1) := by decide +kernel
theorem dX11_openIn_4 : decode cX11_openIn 4 = .ok (.getfield 7, 3) := by decide +kernel
theorem dX11_openIn_7 : decode cX11_openIn 7 = .ok (.bipush 9, 2) := by decide +kernel
theorem dX11_openIn_9 : decode cX11_openIn 9 = .ok (.iaload, 1) := by decide +kernel
theorem dX11_openIn_10 : decode cX11_openIn 10 = .ok (.if_icmp .ge 39, 3) := by decide +kernel
theorem dX11_openIn_13 : decode cX11_openIn 13 = .ok (.aload_n 0, 1) := by decide +kernel
theorem dX11_openIn_14 : decode cX11_openIn 14 = .ok (.getfield 7, 3) := by decide +kernel
theorem dX11_openIn_17 : decode cX11_openIn 17 = .ok (.iload_n 2, 1) := by decide +kernel
theorem dX11_openIn_18 : decode cX11_openIn 18 = .ok (.iconst 0, 1) := by decide +kernel
theorem dX11_openIn_19 : decode cX11_openIn 19 = .ok (.invokestatic 126, 3) := by decide +kernel
theorem dX11_openIn_22 : decode cX11_openIn 22 = .ok (.iaload, 1) := by decide +kernel
theorem dX11_openIn_23 : decode cX11_openIn 23 = .ok (.iload_n 1, 1) := by decide +kernel
theorem dX11_openIn_24 : decode cX11_openIn 24 = .ok (.if_icmp .ne 19, 3) := by decide +kernel
theorem dX11_openIn_27 : decode cX11_openIn 27 = .ok (.aload_n 0, 1) := by decide +kernel
theorem dX11_openIn_28 : decode cX11_openIn 28 = .ok (.getfield 7, 3) := by decide +kernel
theorem dX11_openIn_31 : decode cX11_openIn 31 = .ok (.iload_n 2, 1) := by decide +kernel
theorem dX11_openIn_32 : decode cX11_openIn 32 = .ok (.iconst 4, 1) := by decide +kernel
theorem dX11_openIn_33 : decode cX11_openIn 33 = .ok (.invokestatic 126, 3) := by decide +kernel
theorem dX11_openIn_36 : decode cX11_openIn 36 = .ok (.iaload, 1) := by decide +kernel
theorem dX11_openIn_37 : decode cX11_openIn 37 = .ok (.iconst 1, 1) := by decide +kernel
theorem dX11_openIn_38 : decode cX11_openIn 38 = .ok (.if_icmp .ne 5, 3) := by decide +kernel
theorem dX11_openIn_41 : decode cX11_openIn 41 = .ok (.iload_n 2, 1) := by decide +kernel
theorem dX11_openIn_42 : decode cX11_openIn 42 = .ok (.ireturn, 1) := by decide +kernel
theorem dX11_openIn_43 : decode cX11_openIn 43 = .ok (.iinc 2 1, 3) := by decide +kernel
theorem dX11_openIn_46 : decode cX11_openIn 46 = .ok (.goto (-44), 3) := by decide +kernel
theorem dX11_openIn_49 : decode cX11_openIn 49 = .ok (.iconst (-1), 1) := by decide +kernel
theorem dX11_openIn_50 : decode cX11_openIn 50 = .ok (.ireturn, 1) := by decide +kernel
set_option maxRecDepth 20000 in
theorem ggX11_dropsClosed_X11_eventAt : GoodIn wsX11_dropsClosed wsX11_eventAt := goodIn_r _ [5] (by decide +kernel) (by decide +kernel)
set_option maxRecDepth 20000 in
theorem gX11_dropsClosed_X11_eventAt : GoodIn wsX11_dropsClosed (va_wsS RX11 126 yX11_eventAt wsX11_eventAt) := goodIn_app (goodIn_of _ (by decide +kernel)) ggX11_dropsClosed_X11_eventAt
theorem dX11_dropsClosed_0 : decode cX11_dropsClosed 0 = .ok (.iconst 0, 1) := by decide +kernel
theorem dX11_dropsClosed_1 : decode cX11_dropsClosed 1 = .ok (.istore_n 1, 1) := by decide +kernel
theorem dX11_dropsClosed_2 : decode cX11_dropsClosed 2 = .ok (.aload_n 0, 1) := by decide +kernel
theorem dX11_dropsClosed_3 : decode cX11_dropsClosed 3 = .ok (.getfield 7, 3) := by decide +kernel
theorem dX11_dropsClosed_6 : decode cX11_dropsClosed 6 = .ok (.iload_n 1, 1) := by decide +kernel
theorem dX11_dropsClosed_7 : decode cX11_dropsClosed 7 = .ok (.iconst 4, 1) := by decide +kernel
theorem dX11_dropsClosed_8 : decode cX11_dropsClosed 8 = .ok (.invokestatic 126, 3) := by decide +kernel
theorem dX11_dropsClosed_11 : decode cX11_dropsClosed 11 = .ok (.iaload, 1) := by decide +kernel
theorem dX11_dropsClosed_12 : decode cX11_dropsClosed 12 = .ok (.iconst 1, 1) := by decide +kernel
theorem dX11_dropsClosed_13 : decode cX11_dropsClosed 13 = .ok (.if_icmp .ne 9, 3) := by decide +kernel
theorem dX11_dropsClosed_16 : decode cX11_dropsClosed 16 = .ok (.iinc 1 1, 3) := by decide +kernel
theorem dX11_dropsClosed_19 : decode cX11_dropsClosed 19 = .ok (.goto (-17), 3) := by decide +kernel
theorem dX11_dropsClosed_22 : decode cX11_dropsClosed 22 = .ok (.iload_n 1, 1) := by decide +kernel
theorem dX11_dropsClosed_23 : decode cX11_dropsClosed 23 = .ok (.iconst 0, 1) := by decide +kernel
theorem dX11_dropsClosed_24 : decode cX11_dropsClosed 24 = .ok (.invokestatic 126, 3) := by decide +kernel
theorem dX11_dropsClosed_27 : decode cX11_dropsClosed 27 = .ok (.istore_n 2, 1) := by decide +kernel
theorem dX11_dropsClosed_28 : decode cX11_dropsClosed 28 = .ok (.iload_n 2, 1) := by decide +kernel
theorem dX11_dropsClosed_29 : decode cX11_dropsClosed 29 = .ok (.sipush 799, 3) := by decide +kernel
theorem dX11_dropsClosed_32 : decode cX11_dropsClosed 32 = .ok (.if_icmp .ge 23, 3) := by decide +kernel
theorem dX11_dropsClosed_35 : decode cX11_dropsClosed 35 = .ok (.aload_n 0, 1) := by decide +kernel
theorem dX11_dropsClosed_36 : decode cX11_dropsClosed 36 = .ok (.getfield 7, 3) := by decide +kernel
theorem dX11_dropsClosed_39 : decode cX11_dropsClosed 39 = .ok (.iload_n 2, 1) := by decide +kernel
theorem dX11_dropsClosed_40 : decode cX11_dropsClosed 40 = .ok (.aload_n 0, 1) := by decide +kernel
theorem dX11_dropsClosed_41 : decode cX11_dropsClosed 41 = .ok (.getfield 7, 3) := by decide +kernel
theorem dX11_dropsClosed_44 : decode cX11_dropsClosed 44 = .ok (.iload_n 2, 1) := by decide +kernel
theorem dX11_dropsClosed_45 : decode cX11_dropsClosed 45 = .ok (.iconst 5, 1) := by decide +kernel
theorem dX11_dropsClosed_46 : decode cX11_dropsClosed 46 = .ok (.iadd, 1) := by decide +kernel
theorem dX11_dropsClosed_47 : decode cX11_dropsClosed 47 = .ok (.iaload, 1) := by decide +kernel
theorem dX11_dropsClosed_48 : decode cX11_dropsClosed 48 = .ok (.iastore, 1) := by decide +kernel
theorem dX11_dropsClosed_49 : decode cX11_dropsClosed 49 = .ok (.iinc 2 1, 3) := by decide +kernel
theorem dX11_dropsClosed_52 : decode cX11_dropsClosed 52 = .ok (.goto (-24), 3) := by decide +kernel
theorem dX11_dropsClosed_55 : decode cX11_dropsClosed 55 = .ok (.aload_n 0, 1) := by decide +kernel
theorem dX11_dropsClosed_56 : decode cX11_dropsClosed 56 = .ok (.getfield 7, 3) := by decide +kernel
theorem dX11_dropsClosed_59 : decode cX11_dropsClosed 59 = .ok (.bipush 9, 2) := by decide +kernel
theorem dX11_dropsClosed_61 : decode cX11_dropsClosed 61 = .ok (.dup2, 1) := by decide +kernel
theorem dX11_dropsClosed_62 : decode cX11_dropsClosed 62 = .ok (.iaload, 1) := by decide +kernel
theorem dX11_dropsClosed_63 : decode cX11_dropsClosed 63 = .ok (.iconst 1, 1) := by decide +kernel
theorem dX11_dropsClosed_64 : decode cX11_dropsClosed 64 = .ok (.isub, 1) := by decide +kernel
theorem dX11_dropsClosed_65 : decode cX11_dropsClosed 65 = .ok (.iastore, 1) := by decide +kernel
theorem dX11_dropsClosed_66 : decode cX11_dropsClosed 66 = .ok (.return_, 1) := by decide +kernel
set_option maxRecDepth 20000 in
theorem ggX11_hits_X11_openIn : GoodIn wsX11_hits wsX11_openIn := goodIn_r _ [6, 1, 7, 8, 5, 9, 14, 15, 16, 17, 18, 19, 20, 21, 22, 23, 24, 25, 26, 27] (by decide +kernel) (by decide +kernel)
set_option maxRecDepth 20000 in
theorem gX11_hits_X11_openIn : GoodIn wsX11_hits (wsV RX11 129 RX11 yX11_openIn wsX11_openIn) := goodIn_app (goodIn_of _ (by decide +kernel)) ggX11_hits_X11_openIn
set_option maxRecDepth 20000 in
theorem ggX11_hits_X11_dropsClosed : GoodIn wsX11_hits wsX11_dropsClosed := goodIn_r _ [13, 1, 7, 8, 5, 9, 14, 15, 16, 17, 18, 19, 20, 21, 22, 23, 24, 25, 26, 27] (by decide +kernel) (by decide +kernel)
set_option maxRecDepth 20000 in
theorem gX11_hits_X11_dropsClosed : GoodIn wsX11_hits (wsV RX11 133 RX11 yX11_dropsClosed wsX11_dropsClosed) := goodIn_app (goodIn_of _ (by decide +kernel)) ggX11_hits_X11_dropsClosed
set_option maxRecDepth 20000 in
theorem ggX11_hits_X11_eventAt : GoodIn wsX11_hits wsX11_eventAt := goodIn_r _ [9] (by decide +kernel) (by decide +kernel)
set_option maxRecDepth 20000 in
theorem gX11_hits_X11_eventAt : GoodIn wsX11_hits (va_wsS RX11 126 yX11_eventAt wsX11_eventAt) := goodIn_app (goodIn_of _ (by decide +kernel)) ggX11_hits_X11_eventAt
theorem dX11_hits_0 : decode cX11_hits 0 = .ok (.aload_n 0, 1) := by decide +kernel
theorem dX11_hits_1 : decode cX11_hits 1 = .ok (.iload_n 1, 1) := by decide +kernel
theorem dX11_hits_2 : decode cX11_hits 2 = .ok (.invokevirtual 129, 3) := by decide +kernel
theorem dX11_hits_5 : decode cX11_hits 5 = .ok (.istore_n 3, 1) := by decide +kernel
theorem dX11_hits_6 : decode cX11_hits 6 = .ok (.iload_n 3, 1) := by decide +kernel
theorem dX11_hits_7 : decode cX11_hits 7 = .ok (.iconst (-1), 1) := by decide +kernel
theorem dX11_hits_8 : decode cX11_hits 8 = .ok (.if_icmp .ne 87, 3) := by decide +kernel
theorem dX11_hits_11 : decode cX11_hits 11 = .ok (.aload_n 0, 1) := by decide +kernel
theorem dX11_hits_12 : decode cX11_hits 12 = .ok (.getfield 7, 3) := by decide +kernel
theorem dX11_hits_15 : decode cX11_hits 15 = .ok (.bipush 9, 2) := by decide +kernel
theorem dX11_hits_17 : decode cX11_hits 17 = .ok (.iaload, 1) := by decide +kernel
theorem dX11_hits_18 : decode cX11_hits 18 = .ok (.bipush 50, 2) := by decide +kernel
theorem dX11_hits_20 : decode cX11_hits 20 = .ok (.if_icmp .ne 7, 3) := by decide +kernel
theorem dX11_hits_23 : decode cX11_hits 23 = .ok (.aload_n 0, 1) := by decide +kernel
theorem dX11_hits_24 : decode cX11_hits 24 = .ok (.invokevirtual 133, 3) := by decide +kernel
theorem dX11_hits_27 : decode cX11_hits 27 = .ok (.aload_n 0, 1) := by decide +kernel
theorem dX11_hits_28 : decode cX11_hits 28 = .ok (.getfield 7, 3) := by decide +kernel
theorem dX11_hits_31 : decode cX11_hits 31 = .ok (.bipush 9, 2) := by decide +kernel
theorem dX11_hits_33 : decode cX11_hits 33 = .ok (.iaload, 1) := by decide +kernel
theorem dX11_hits_34 : decode cX11_hits 34 = .ok (.istore_n 3, 1) := by decide +kernel
theorem dX11_hits_35 : decode cX11_hits 35 = .ok (.aload_n 0, 1) := by decide +kernel
theorem dX11_hits_36 : decode cX11_hits 36 = .ok (.getfield 7, 3) := by decide +kernel
theorem dX11_hits_39 : decode cX11_hits 39 = .ok (.bipush 9, 2) := by decide +kernel
theorem dX11_hits_41 : decode cX11_hits 41 = .ok (.dup2, 1) := by decide +kernel
theorem dX11_hits_42 : decode cX11_hits 42 = .ok (.iaload, 1) := by decide +kernel
theorem dX11_hits_43 : decode cX11_hits 43 = .ok (.iconst 1, 1) := by decide +kernel
theorem dX11_hits_44 : decode cX11_hits 44 = .ok (.iadd, 1) := by decide +kernel
theorem dX11_hits_45 : decode cX11_hits 45 = .ok (.iastore, 1) := by decide +kernel
theorem dX11_hits_46 : decode cX11_hits 46 = .ok (.aload_n 0, 1) := by decide +kernel
theorem dX11_hits_47 : decode cX11_hits 47 = .ok (.getfield 7, 3) := by decide +kernel
theorem dX11_hits_50 : decode cX11_hits 50 = .ok (.iload_n 3, 1) := by decide +kernel
theorem dX11_hits_51 : decode cX11_hits 51 = .ok (.iconst 0, 1) := by decide +kernel
theorem dX11_hits_52 : decode cX11_hits 52 = .ok (.invokestatic 126, 3) := by decide +kernel
theorem dX11_hits_55 : decode cX11_hits 55 = .ok (.iload_n 1, 1) := by decide +kernel
theorem dX11_hits_56 : decode cX11_hits 56 = .ok (.iastore, 1) := by decide +kernel
theorem dX11_hits_57 : decode cX11_hits 57 = .ok (.aload_n 0, 1) := by decide +kernel
theorem dX11_hits_58 : decode cX11_hits 58 = .ok (.getfield 7, 3) := by decide +kernel
theorem dX11_hits_61 : decode cX11_hits 61 = .ok (.iload_n 3, 1) := by decide +kernel
theorem dX11_hits_62 : decode cX11_hits 62 = .ok (.iconst 1, 1) := by decide +kernel
theorem dX11_hits_63 : decode cX11_hits 63 = .ok (.invokestatic 126, 3) := by decide +kernel
theorem dX11_hits_66 : decode cX11_hits 66 = .ok (.aload_n 0, 1) := by decide +kernel
theorem dX11_hits_67 : decode cX11_hits 67 = .ok (.getfield 7, 3) := by decide +kernel
theorem dX11_hits_70 : decode cX11_hits 70 = .ok (.iconst 0, 1) := by decide +kernel
theorem dX11_hits_71 : decode cX11_hits 71 = .ok (.iaload, 1) := by decide +kernel
theorem dX11_hits_72 : decode cX11_hits 72 = .ok (.iastore, 1) := by decide +kernel
theorem dX11_hits_73 : decode cX11_hits 73 = .ok (.aload_n 0, 1) := by decide +kernel
theorem dX11_hits_74 : decode cX11_hits 74 = .ok (.getfield 7, 3) := by decide +kernel
theorem dX11_hits_77 : decode cX11_hits 77 = .ok (.iload_n 3, 1) := by decide +kernel
theorem dX11_hits_78 : decode cX11_hits 78 = .ok (.iconst 3, 1) := by decide +kernel
theorem dX11_hits_79 : decode cX11_hits 79 = .ok (.invokestatic 126, 3) := by decide +kernel
theorem dX11_hits_82 : decode cX11_hits 82 = .ok (.iload_n 2, 1) := by decide +kernel
theorem dX11_hits_83 : decode cX11_hits 83 = .ok (.iastore, 1) := by decide +kernel
theorem dX11_hits_84 : decode cX11_hits 84 = .ok (.aload_n 0, 1) := by decide +kernel
theorem dX11_hits_85 : decode cX11_hits 85 = .ok (.getfield 7, 3) := by decide +kernel
theorem dX11_hits_88 : decode cX11_hits 88 = .ok (.iload_n 3, 1) := by decide +kernel
theorem dX11_hits_89 : decode cX11_hits 89 = .ok (.iconst 4, 1) := by decide +kernel
theorem dX11_hits_90 : decode cX11_hits 90 = .ok (.invokestatic 126, 3) := by decide +kernel
theorem dX11_hits_93 : decode cX11_hits 93 = .ok (.iconst 1, 1) := by decide +kernel
theorem dX11_hits_94 : decode cX11_hits 94 = .ok (.iastore, 1) := by decide +kernel
theorem dX11_hits_95 : decode cX11_hits 95 = .ok (.aload_n 0, 1) := by decide +kernel
theorem dX11_hits_96 : decode cX11_hits 96 = .ok (.getfield 7, 3) := by decide +kernel
theorem dX11_hits_99 : decode cX11_hits 99 = .ok (.iload_n 3, 1) := by decide +kernel
theorem dX11_hits_100 : decode cX11_hits 100 = .ok (.iconst 2, 1) := by decide +kernel
theorem dX11_hits_101 : decode cX11_hits 101 = .ok (.invokestatic 126, 3) := by decide +kernel
theorem dX11_hits_104 : decode cX11_hits 104 = .ok (.aload_n 0, 1) := by decide +kernel
theorem dX11_hits_105 : decode cX11_hits 105 = .ok (.getfield 7, 3) := by decide +kernel
theorem dX11_hits_108 : decode cX11_hits 108 = .ok (.iconst 0, 1) := by decide +kernel
theorem dX11_hits_109 : decode cX11_hits 109 = .ok (.iaload, 1) := by decide +kernel
theorem dX11_hits_110 : decode cX11_hits 110 = .ok (.iastore, 1) := by decide +kernel
theorem dX11_hits_111 : decode cX11_hits 111 = .ok (.aload_n 0, 1) := by decide +kernel
theorem dX11_hits_112 : decode cX11_hits 112 = .ok (.getfield 7, 3) := by decide +kernel
theorem dX11_hits_115 : decode cX11_hits 115 = .ok (.iload_n 3, 1) := by decide +kernel
theorem dX11_hits_116 : decode cX11_hits 116 = .ok (.iconst 3, 1) := by decide +kernel
theorem dX11_hits_117 : decode cX11_hits 117 = .ok (.invokestatic 126, 3) := by decide +kernel
theorem dX11_hits_120 : decode cX11_hits 120 = .ok (.iload_n 2, 1) := by decide +kernel
theorem dX11_hits_121 : decode cX11_hits 121 = .ok (.aload_n 0, 1) := by decide +kernel
theorem dX11_hits_122 : decode cX11_hits 122 = .ok (.getfield 7, 3) := by decide +kernel
theorem dX11_hits_125 : decode cX11_hits 125 = .ok (.iload_n 3, 1) := by decide +kernel
theorem dX11_hits_126 : decode cX11_hits 126 = .ok (.iconst 3, 1) := by decide +kernel
theorem dX11_hits_127 : decode cX11_hits 127 = .ok (.invokestatic 126, 3) := by decide +kernel
theorem dX11_hits_130 : decode cX11_hits 130 = .ok (.iaload, 1) := by decide +kernel
theorem dX11_hits_131 : decode cX11_hits 131 = .ok (.if_icmp .le 7, 3) := by decide +kernel
theorem dX11_hits_134 : decode cX11_hits 134 = .ok (.iload_n 2, 1) := by decide +kernel
theorem dX11_hits_135 : decode cX11_hits 135 = .ok (.goto 13, 3) := by decide +kernel
theorem dX11_hits_138 : decode cX11_hits 138 = .ok (.aload_n 0, 1) := by decide +kernel
theorem dX11_hits_139 : decode cX11_hits 139 = .ok (.getfield 7, 3) := by decide +kernel
theorem dX11_hits_142 : decode cX11_hits 142 = .ok (.iload_n 3, 1) := by decide +kernel
theorem dX11_hits_143 : decode cX11_hits 143 = .ok (.iconst 3, 1) := by decide +kernel
theorem dX11_hits_144 : decode cX11_hits 144 = .ok (.invokestatic 126, 3) := by decide +kernel
theorem dX11_hits_147 : decode cX11_hits 147 = .ok (.iaload, 1) := by decide +kernel
theorem dX11_hits_148 : decode cX11_hits 148 = .ok (.iastore, 1) := by decide +kernel
theorem dX11_hits_149 : decode cX11_hits 149 = .ok (.return_, 1) := by decide +kernel
set_option maxRecDepth 20000 in
theorem ggX11_observes_X11_levelNow : GoodIn wsX11_observes wsX11_levelNow := goodIn_r _ [6, 1, 22, 23, 24, 25, 26, 27, 28, 29, 30, 31, 32, 33, 34, 35] (by decide +kernel) (by decide +kernel)
set_option maxRecDepth 20000 in
theorem gX11_observes_X11_levelNow : GoodIn wsX11_observes (wsV RX11 136 RX11 yX11_levelNow wsX11_levelNow) := goodIn_app (goodIn_of _ (by decide +kernel)) ggX11_observes_X11_levelNow
set_option maxRecDepth 20000 in
theorem ggX11_observes_X11_hits : GoodIn wsX11_observes wsX11_hits := goodIn_r _ [10, 1, 11, 12, 13, 5, 14, 15, 16, 17, 18, 19, 20, 21, 22, 23, 24, 25, 26, 27, 28, 29, 30, 31, 32, 33, 34, 35] (by decide +kernel) (by decide +kernel)
set_option maxRecDepth 20000 in
theorem gX11_observes_X11_hits : GoodIn wsX11_observes (wsV RX11 139 RX11 yX11_hits wsX11_hits) := goodIn_app (goodIn_of _ (by decide +kernel)) ggX11_observes_X11_hits
set_option maxRecDepth 20000 in
theorem ggX11_observes_X11_openIn : GoodIn wsX11_observes wsX11_openIn := goodIn_r _ [14, 1, 15, 16, 5, 17, 22, 23, 24, 25, 26, 27, 28, 29, 30, 31, 32, 33, 34, 35] (by decide +kernel) (by decide +kernel)
set_option maxRecDepth 20000 in
theorem gX11_observes_X11_openIn : GoodIn wsX11_observes (wsV RX11 129 RX11 yX11_openIn wsX11_openIn) := goodIn_app (goodIn_of _ (by decide +kernel)) ggX11_observes_X11_openIn
set_option maxRecDepth 20000 in
theorem ggX11_observes_X11_eventAt : GoodIn wsX11_observes wsX11_eventAt := goodIn_r _ [17] (by decide +kernel) (by decide +kernel)
set_option maxRecDepth 20000 in
theorem gX11_observes_X11_eventAt : GoodIn wsX11_observes (va_wsS RX11 126 yX11_eventAt wsX11_eventAt) := goodIn_app (goodIn_of _ (by decide +kernel)) ggX11_observes_X11_eventAt
theorem dX11_observes_0 : decode cX11_observes 0 = .ok (.aload_n 0, 1) := by decide +kernel
theorem dX11_observes_1 : decode cX11_observes 1 = .ok (.iload_n 1, 1) := by decide +kernel
theorem dX11_observes_2 : decode cX11_observes 2 = .ok (.invokevirtual 136, 3) := by decide +kernel
theorem dX11_observes_5 : decode cX11_observes 5 = .ok (.istore_n 2, 1) := by decide +kernel
theorem dX11_observes_6 : decode cX11_observes 6 = .ok (.sipush 138, 3) := by decide +kernel
theorem dX11_observes_9 : decode cX11_observes 9 = .ok (.bipush 13, 2) := by decide +kernel
theorem dX11_observes_11 : decode cX11_observes 11 = .ok (.iload_n 1, 1) := by decide +kernel
theorem dX11_observes_12 : decode cX11_observes 12 = .ok (.imul, 1) := by decide +kernel
theorem dX11_observes_13 : decode cX11_observes 13 = .ok (.iadd, 1) := by decide +kernel
theorem dX11_observes_14 : decode cX11_observes 14 = .ok (.istore_n 3, 1) := by decide +kernel
theorem dX11_observes_15 : decode cX11_observes 15 = .ok (.aload_n 0, 1) := by decide +kernel
theorem dX11_observes_16 : decode cX11_observes 16 = .ok (.getfield 7, 3) := by decide +kernel
theorem dX11_observes_19 : decode cX11_observes 19 = .ok (.iload_n 3, 1) := by decide +kernel
theorem dX11_observes_20 : decode cX11_observes 20 = .ok (.dup2, 1) := by decide +kernel
theorem dX11_observes_21 : decode cX11_observes 21 = .ok (.iaload, 1) := by decide +kernel
theorem dX11_observes_22 : decode cX11_observes 22 = .ok (.iconst 1, 1) := by decide +kernel
theorem dX11_observes_23 : decode cX11_observes 23 = .ok (.iadd, 1) := by decide +kernel
theorem dX11_observes_24 : decode cX11_observes 24 = .ok (.iastore, 1) := by decide +kernel
theorem dX11_observes_25 : decode cX11_observes 25 = .ok (.aload_n 0, 1) := by decide +kernel
theorem dX11_observes_26 : decode cX11_observes 26 = .ok (.getfield 7, 3) := by decide +kernel
theorem dX11_observes_29 : decode cX11_observes 29 = .ok (.iload_n 3, 1) := by decide +kernel
theorem dX11_observes_30 : decode cX11_observes 30 = .ok (.iconst 2, 1) := by decide +kernel
theorem dX11_observes_31 : decode cX11_observes 31 = .ok (.iadd, 1) := by decide +kernel
theorem dX11_observes_32 : decode cX11_observes 32 = .ok (.iload_n 2, 1) := by decide +kernel
theorem dX11_observes_33 : decode cX11_observes 33 = .ok (.aload_n 0, 1) := by decide +kernel
theorem dX11_observes_34 : decode cX11_observes 34 = .ok (.getfield 7, 3) := by decide +kernel
theorem dX11_observes_37 : decode cX11_observes 37 = .ok (.iload_n 3, 1) := by decide +kernel
theorem dX11_observes_38 : decode cX11_observes 38 = .ok (.iconst 2, 1) := by decide +kernel
theorem dX11_observes_39 : decode cX11_observes 39 = .ok (.iadd, 1) := by decide +kernel
theorem dX11_observes_40 : decode cX11_observes 40 = .ok (.iaload, 1) := by decide +kernel
theorem dX11_observes_41 : decode cX11_observes 41 = .ok (.if_icmp .le 7, 3) := by decide +kernel
theorem dX11_observes_44 : decode cX11_observes 44 = .ok (.iload_n 2, 1) := by decide +kernel
theorem dX11_observes_45 : decode cX11_observes 45 = .ok (.goto 11, 3) := by decide +kernel
theorem dX11_observes_48 : decode cX11_observes 48 = .ok (.aload_n 0, 1) := by decide +kernel
theorem dX11_observes_49 : decode cX11_observes 49 = .ok (.getfield 7, 3) := by decide +kernel
theorem dX11_observes_52 : decode cX11_observes 52 = .ok (.iload_n 3, 1) := by decide +kernel
theorem dX11_observes_53 : decode cX11_observes 53 = .ok (.iconst 2, 1) := by decide +kernel
theorem dX11_observes_54 : decode cX11_observes 54 = .ok (.iadd, 1) := by decide +kernel
theorem dX11_observes_55 : decode cX11_observes 55 = .ok (.iaload, 1) := by decide +kernel
theorem dX11_observes_56 : decode cX11_observes 56 = .ok (.iastore, 1) := by decide +kernel
theorem dX11_observes_57 : decode cX11_observes 57 = .ok (.aload_n 0, 1) := by decide +kernel
theorem dX11_observes_58 : decode cX11_observes 58 = .ok (.getfield 7, 3) := by decide +kernel
theorem dX11_observes_61 : decode cX11_observes 61 = .ok (.iload_n 3, 1) := by decide +kernel
theorem dX11_observes_62 : decode cX11_observes 62 = .ok (.iconst 3, 1) := by decide +kernel
theorem dX11_observes_63 : decode cX11_observes 63 = .ok (.iadd, 1) := by decide +kernel
theorem dX11_observes_64 : decode cX11_observes 64 = .ok (.dup2, 1) := by decide +kernel
theorem dX11_observes_65 : decode cX11_observes 65 = .ok (.iaload, 1) := by decide +kernel
theorem dX11_observes_66 : decode cX11_observes 66 = .ok (.iload_n 2, 1) := by decide +kernel
theorem dX11_observes_67 : decode cX11_observes 67 = .ok (.aload_n 0, 1) := by decide +kernel
theorem dX11_observes_68 : decode cX11_observes 68 = .ok (.getfield 7, 3) := by decide +kernel
theorem dX11_observes_71 : decode cX11_observes 71 = .ok (.bipush 106, 2) := by decide +kernel
theorem dX11_observes_73 : decode cX11_observes 73 = .ok (.iload_n 1, 1) := by decide +kernel
theorem dX11_observes_74 : decode cX11_observes 74 = .ok (.iadd, 1) := by decide +kernel
theorem dX11_observes_75 : decode cX11_observes 75 = .ok (.iaload, 1) := by decide +kernel
theorem dX11_observes_76 : decode cX11_observes 76 = .ok (.if_icmp .le 7, 3) := by decide +kernel
theorem dX11_observes_79 : decode cX11_observes 79 = .ok (.iconst 1, 1) := by decide +kernel
theorem dX11_observes_80 : decode cX11_observes 80 = .ok (.goto 4, 3) := by decide +kernel
theorem dX11_observes_83 : decode cX11_observes 83 = .ok (.iconst 0, 1) := by decide +kernel
theorem dX11_observes_84 : decode cX11_observes 84 = .ok (.iadd, 1) := by decide +kernel
theorem dX11_observes_85 : decode cX11_observes 85 = .ok (.iastore, 1) := by decide +kernel
theorem dX11_observes_86 : decode cX11_observes 86 = .ok (.aload_n 0, 1) := by decide +kernel
theorem dX11_observes_87 : decode cX11_observes 87 = .ok (.getfield 7, 3) := by decide +kernel
theorem dX11_observes_90 : decode cX11_observes 90 = .ok (.iload_n 3, 1) := by decide +kernel
theorem dX11_observes_91 : decode cX11_observes 91 = .ok (.iconst 4, 1) := by decide +kernel
theorem dX11_observes_92 : decode cX11_observes 92 = .ok (.iadd, 1) := by decide +kernel
theorem dX11_observes_93 : decode cX11_observes 93 = .ok (.iaload, 1) := by decide +kernel
theorem dX11_observes_94 : decode cX11_observes 94 = .ok (.bipush 8, 2) := by decide +kernel
theorem dX11_observes_96 : decode cX11_observes 96 = .ok (.if_icmp .ne 51, 3) := by decide +kernel
theorem dX11_observes_99 : decode cX11_observes 99 = .ok (.iload_n 3, 1) := by decide +kernel
theorem dX11_observes_100 : decode cX11_observes 100 = .ok (.iconst 5, 1) := by decide +kernel
theorem dX11_observes_101 : decode cX11_observes 101 = .ok (.iadd, 1) := by decide +kernel
theorem dX11_observes_102 : decode cX11_observes 102 = .ok (.istore 4, 2) := by decide +kernel
theorem dX11_observes_104 : decode cX11_observes 104 = .ok (.iload 4, 2) := by decide +kernel
theorem dX11_observes_106 : decode cX11_observes 106 = .ok (.iload_n 3, 1) := by decide +kernel
theorem dX11_observes_107 : decode cX11_observes 107 = .ok (.bipush 12, 2) := by decide +kernel
theorem dX11_observes_109 : decode cX11_observes 109 = .ok (.iadd, 1) := by decide +kernel
theorem dX11_observes_110 : decode cX11_observes 110 = .ok (.if_icmp .ge 25, 3) := by decide +kernel
theorem dX11_observes_113 : decode cX11_observes 113 = .ok (.aload_n 0, 1) := by decide +kernel
theorem dX11_observes_114 : decode cX11_observes 114 = .ok (.getfield 7, 3) := by decide +kernel
theorem dX11_observes_117 : decode cX11_observes 117 = .ok (.iload 4, 2) := by decide +kernel
theorem dX11_observes_119 : decode cX11_observes 119 = .ok (.aload_n 0, 1) := by decide +kernel
theorem dX11_observes_120 : decode cX11_observes 120 = .ok (.getfield 7, 3) := by decide +kernel
theorem dX11_observes_123 : decode cX11_observes 123 = .ok (.iload 4, 2) := by decide +kernel
theorem dX11_observes_125 : decode cX11_observes 125 = .ok (.iconst 1, 1) := by decide +kernel
theorem dX11_observes_126 : decode cX11_observes 126 = .ok (.iadd, 1) := by decide +kernel
theorem dX11_observes_127 : decode cX11_observes 127 = .ok (.iaload, 1) := by decide +kernel
theorem dX11_observes_128 : decode cX11_observes 128 = .ok (.iastore, 1) := by decide +kernel
theorem dX11_observes_129 : decode cX11_observes 129 = .ok (.iinc 4 1, 3) := by decide +kernel
theorem dX11_observes_132 : decode cX11_observes 132 = .ok (.goto (-28), 3) := by decide +kernel
theorem dX11_observes_135 : decode cX11_observes 135 = .ok (.aload_n 0, 1) := by decide +kernel
theorem dX11_observes_136 : decode cX11_observes 136 = .ok (.getfield 7, 3) := by decide +kernel
theorem dX11_observes_139 : decode cX11_observes 139 = .ok (.iload_n 3, 1) := by decide +kernel
theorem dX11_observes_140 : decode cX11_observes 140 = .ok (.iconst 4, 1) := by decide +kernel
theorem dX11_observes_141 : decode cX11_observes 141 = .ok (.iadd, 1) := by decide +kernel
theorem dX11_observes_142 : decode cX11_observes 142 = .ok (.dup2, 1) := by decide +kernel
theorem dX11_observes_143 : decode cX11_observes 143 = .ok (.iaload, 1) := by decide +kernel
theorem dX11_observes_144 : decode cX11_observes 144 = .ok (.iconst 1, 1) := by decide +kernel
theorem dX11_observes_145 : decode cX11_observes 145 = .ok (.isub, 1) := by decide +kernel
theorem dX11_observes_146 : decode cX11_observes 146 = .ok (.iastore, 1) := by decide +kernel
theorem dX11_observes_147 : decode cX11_observes 147 = .ok (.aload_n 0, 1) := by decide +kernel
theorem dX11_observes_148 : decode cX11_observes 148 = .ok (.getfield 7, 3) := by decide +kernel
theorem dX11_observes_151 : decode cX11_observes 151 = .ok (.iload_n 3, 1) := by decide +kernel
theorem dX11_observes_152 : decode cX11_observes 152 = .ok (.iconst 5, 1) := by decide +kernel
theorem dX11_observes_153 : decode cX11_observes 153 = .ok (.iadd, 1) := by decide +kernel
theorem dX11_observes_154 : decode cX11_observes 154 = .ok (.aload_n 0, 1) := by decide +kernel
theorem dX11_observes_155 : decode cX11_observes 155 = .ok (.getfield 7, 3) := by decide +kernel
theorem dX11_observes_158 : decode cX11_observes 158 = .ok (.iload_n 3, 1) := by decide +kernel
theorem dX11_observes_159 : decode cX11_observes 159 = .ok (.iconst 4, 1) := by decide +kernel
theorem dX11_observes_160 : decode cX11_observes 160 = .ok (.iadd, 1) := by decide +kernel
theorem dX11_observes_161 : decode cX11_observes 161 = .ok (.iaload, 1) := by decide +kernel
theorem dX11_observes_162 : decode cX11_observes 162 = .ok (.iadd, 1) := by decide +kernel
theorem dX11_observes_163 : decode cX11_observes 163 = .ok (.iload_n 2, 1) := by decide +kernel
theorem dX11_observes_164 : decode cX11_observes 164 = .ok (.iastore, 1) := by decide +kernel
theorem dX11_observes_165 : decode cX11_observes 165 = .ok (.aload_n 0, 1) := by decide +kernel
theorem dX11_observes_166 : decode cX11_observes 166 = .ok (.getfield 7, 3) := by decide +kernel
theorem dX11_observes_169 : decode cX11_observes 169 = .ok (.iload_n 3, 1) := by decide +kernel
theorem dX11_observes_170 : decode cX11_observes 170 = .ok (.iconst 4, 1) := by decide +kernel
theorem dX11_observes_171 : decode cX11_observes 171 = .ok (.iadd, 1) := by decide +kernel
theorem dX11_observes_172 : decode cX11_observes 172 = .ok (.dup2, 1) := by decide +kernel
theorem dX11_observes_173 : decode cX11_observes 173 = .ok (.iaload, 1) := by decide +kernel
theorem dX11_observes_174 : decode cX11_observes 174 = .ok (.iconst 1, 1) := by decide +kernel
theorem dX11_observes_175 : decode cX11_observes 175 = .ok (.iadd, 1) := by decide +kernel
theorem dX11_observes_176 : decode cX11_observes 176 = .ok (.iastore, 1) := by decide +kernel
theorem dX11_observes_177 : decode cX11_observes 177 = .ok (.iload_n 2, 1) := by decide +kernel
theorem dX11_observes_178 : decode cX11_observes 178 = .ok (.aload_n 0, 1) := by decide +kernel
theorem dX11_observes_179 : decode cX11_observes 179 = .ok (.getfield 7, 3) := by decide +kernel
theorem dX11_observes_182 : decode cX11_observes 182 = .ok (.iconst 2, 1) := by decide +kernel
theorem dX11_observes_183 : decode cX11_observes 183 = .ok (.iaload, 1) := by decide +kernel
theorem dX11_observes_184 : decode cX11_observes 184 = .ok (.if_icmp .le 24, 3) := by decide +kernel
theorem dX11_observes_187 : decode cX11_observes 187 = .ok (.aload_n 0, 1) := by decide +kernel
theorem dX11_observes_188 : decode cX11_observes 188 = .ok (.getfield 7, 3) := by decide +kernel
theorem dX11_observes_191 : decode cX11_observes 191 = .ok (.iload_n 3, 1) := by decide +kernel
theorem dX11_observes_192 : decode cX11_observes 192 = .ok (.iconst 1, 1) := by decide +kernel
theorem dX11_observes_193 : decode cX11_observes 193 = .ok (.iadd, 1) := by decide +kernel
theorem dX11_observes_194 : decode cX11_observes 194 = .ok (.dup2, 1) := by decide +kernel
theorem dX11_observes_195 : decode cX11_observes 195 = .ok (.iaload, 1) := by decide +kernel
theorem dX11_observes_196 : decode cX11_observes 196 = .ok (.iconst 1, 1) := by decide +kernel
theorem dX11_observes_197 : decode cX11_observes 197 = .ok (.iadd, 1) := by decide +kernel
theorem dX11_observes_198 : decode cX11_observes 198 = .ok (.iastore, 1) := by decide +kernel
theorem dX11_observes_199 : decode cX11_observes 199 = .ok (.aload_n 0, 1) := by decide +kernel
theorem dX11_observes_200 : decode cX11_observes 200 = .ok (.iload_n 1, 1) := by decide +kernel
theorem dX11_observes_201 : decode cX11_observes 201 = .ok (.iload_n 2, 1) := by decide +kernel
theorem dX11_observes_202 : decode cX11_observes 202 = .ok (.invokevirtual 139, 3) := by decide +kernel
theorem dX11_observes_205 : decode cX11_observes 205 = .ok (.goto 27, 3) := by decide +kernel
theorem dX11_observes_208 : decode cX11_observes 208 = .ok (.aload_n 0, 1) := by decide +kernel
theorem dX11_observes_209 : decode cX11_observes 209 = .ok (.iload_n 1, 1) := by decide +kernel
theorem dX11_observes_210 : decode cX11_observes 210 = .ok (.invokevirtual 129, 3) := by decide +kernel
theorem dX11_observes_213 : decode cX11_observes 213 = .ok (.iconst (-1), 1) := by decide +kernel
theorem dX11_observes_214 : decode cX11_observes 214 = .ok (.if_icmp .eq 18, 3) := by decide +kernel
theorem dX11_observes_217 : decode cX11_observes 217 = .ok (.aload_n 0, 1) := by decide +kernel
theorem dX11_observes_218 : decode cX11_observes 218 = .ok (.getfield 7, 3) := by decide +kernel
theorem dX11_observes_221 : decode cX11_observes 221 = .ok (.aload_n 0, 1) := by decide +kernel
theorem dX11_observes_222 : decode cX11_observes 222 = .ok (.iload_n 1, 1) := by decide +kernel
theorem dX11_observes_223 : decode cX11_observes 223 = .ok (.invokevirtual 129, 3) := by decide +kernel
theorem dX11_observes_226 : decode cX11_observes 226 = .ok (.iconst 4, 1) := by decide +kernel
theorem dX11_observes_227 : decode cX11_observes 227 = .ok (.invokestatic 126, 3) := by decide +kernel
theorem dX11_observes_230 : decode cX11_observes 230 = .ok (.iconst 0, 1) := by decide +kernel
theorem dX11_observes_231 : decode cX11_observes 231 = .ok (.iastore, 1) := by decide +kernel
theorem dX11_observes_232 : decode cX11_observes 232 = .ok (.return_, 1) := by decide +kernel
set_option maxRecDepth 20000 in
theorem ggX11_ticks_X11_observes : GoodIn wsX11_ticks wsX11_observes := goodIn_r _ [6, 1, 7, 8, 9, 5, 10, 11, 12, 13, 14, 15, 16, 17, 18, 19, 20, 21, 22, 23, 24, 25, 26, 27, 28, 29, 30, 31, 32, 33, 34, 35, 36, 37, 38, 39] (by decide +kernel) (by decide +kernel)
set_option maxRecDepth 20000 in
theorem gX11_ticks_X11_observes : GoodIn wsX11_ticks (wsV RX11 143 RX11 yX11_observes wsX11_observes) := goodIn_app (goodIn_of _ (by decide +kernel)) ggX11_ticks_X11_observes
theorem dX11_ticks_0 : decode cX11_ticks 0 = .ok (.aload_n 0, 1) := by decide +kernel
theorem dX11_ticks_1 : decode cX11_ticks 1 = .ok (.getfield 7, 3) := by decide +kernel
theorem dX11_ticks_4 : decode cX11_ticks 4 = .ok (.iconst 0, 1) := by decide +kernel
theorem dX11_ticks_5 : decode cX11_ticks 5 = .ok (.dup2, 1) := by decide +kernel
theorem dX11_ticks_6 : decode cX11_ticks 6 = .ok (.iaload, 1) := by decide +kernel
theorem dX11_ticks_7 : decode cX11_ticks 7 = .ok (.iconst 1, 1) := by decide +kernel
theorem dX11_ticks_8 : decode cX11_ticks 8 = .ok (.iadd, 1) := by decide +kernel
theorem dX11_ticks_9 : decode cX11_ticks 9 = .ok (.iastore, 1) := by decide +kernel
theorem dX11_ticks_10 : decode cX11_ticks 10 = .ok (.aload_n 0, 1) := by decide +kernel
theorem dX11_ticks_11 : decode cX11_ticks 11 = .ok (.getfield 7, 3) := by decide +kernel
theorem dX11_ticks_14 : decode cX11_ticks 14 = .ok (.bipush 6, 2) := by decide +kernel
theorem dX11_ticks_16 : decode cX11_ticks 16 = .ok (.iaload, 1) := by decide +kernel
theorem dX11_ticks_17 : decode cX11_ticks 17 = .ok (.ifCond .ne 4, 3) := by decide +kernel
theorem dX11_ticks_20 : decode cX11_ticks 20 = .ok (.return_, 1) := by decide +kernel
theorem dX11_ticks_21 : decode cX11_ticks 21 = .ok (.bipush 70, 2) := by decide +kernel
theorem dX11_ticks_23 : decode cX11_ticks 23 = .ok (.iconst 3, 1) := by decide +kernel
theorem dX11_ticks_24 : decode cX11_ticks 24 = .ok (.aload_n 0, 1) := by decide +kernel
theorem dX11_ticks_25 : decode cX11_ticks 25 = .ok (.getfield 7, 3) := by decide +kernel
theorem dX11_ticks_28 : decode cX11_ticks 28 = .ok (.bipush 7, 2) := by decide +kernel
theorem dX11_ticks_30 : decode cX11_ticks 30 = .ok (.iaload, 1) := by decide +kernel
theorem dX11_ticks_31 : decode cX11_ticks 31 = .ok (.imul, 1) := by decide +kernel
theorem dX11_ticks_32 : decode cX11_ticks 32 = .ok (.iadd, 1) := by decide +kernel
theorem dX11_ticks_33 : decode cX11_ticks 33 = .ok (.istore_n 1, 1) := by decide +kernel
theorem dX11_ticks_34 : decode cX11_ticks 34 = .ok (.aload_n 0, 1) := by decide +kernel
theorem dX11_ticks_35 : decode cX11_ticks 35 = .ok (.getfield 7, 3) := by decide +kernel
theorem dX11_ticks_38 : decode cX11_ticks 38 = .ok (.iload_n 1, 1) := by decide +kernel
theorem dX11_ticks_39 : decode cX11_ticks 39 = .ok (.iaload, 1) := by decide +kernel
theorem dX11_ticks_40 : decode cX11_ticks 40 = .ok (.istore_n 2, 1) := by decide +kernel
theorem dX11_ticks_41 : decode cX11_ticks 41 = .ok (.iload_n 2, 1) := by decide +kernel
theorem dX11_ticks_42 : decode cX11_ticks 42 = .ok (.aload_n 0, 1) := by decide +kernel
theorem dX11_ticks_43 : decode cX11_ticks 43 = .ok (.getfield 7, 3) := by decide +kernel
theorem dX11_ticks_46 : decode cX11_ticks 46 = .ok (.iload_n 1, 1) := by decide +kernel
theorem dX11_ticks_47 : decode cX11_ticks 47 = .ok (.iconst 1, 1) := by decide +kernel
theorem dX11_ticks_48 : decode cX11_ticks 48 = .ok (.iadd, 1) := by decide +kernel
theorem dX11_ticks_49 : decode cX11_ticks 49 = .ok (.iaload, 1) := by decide +kernel
theorem dX11_ticks_50 : decode cX11_ticks 50 = .ok (.if_icmp .gt 14, 3) := by decide +kernel
theorem dX11_ticks_53 : decode cX11_ticks 53 = .ok (.aload_n 0, 1) := by decide +kernel
theorem dX11_ticks_54 : decode cX11_ticks 54 = .ok (.iload_n 2, 1) := by decide +kernel
theorem dX11_ticks_55 : decode cX11_ticks 55 = .ok (.invokevirtual 143, 3) := by decide +kernel
theorem dX11_ticks_58 : decode cX11_ticks 58 = .ok (.iinc 2 1, 3) := by decide +kernel
theorem dX11_ticks_61 : decode cX11_ticks 61 = .ok (.goto (-20), 3) := by decide +kernel
theorem dX11_ticks_64 : decode cX11_ticks 64 = .ok (.aload_n 0, 1) := by decide +kernel
theorem dX11_ticks_65 : decode cX11_ticks 65 = .ok (.getfield 7, 3) := by decide +kernel
theorem dX11_ticks_68 : decode cX11_ticks 68 = .ok (.bipush 8, 2) := by decide +kernel
theorem dX11_ticks_70 : decode cX11_ticks 70 = .ok (.dup2, 1) := by decide +kernel
theorem dX11_ticks_71 : decode cX11_ticks 71 = .ok (.iaload, 1) := by decide +kernel
theorem dX11_ticks_72 : decode cX11_ticks 72 = .ok (.iconst 1, 1) := by decide +kernel
theorem dX11_ticks_73 : decode cX11_ticks 73 = .ok (.iadd, 1) := by decide +kernel
theorem dX11_ticks_74 : decode cX11_ticks 74 = .ok (.iastore, 1) := by decide +kernel
theorem dX11_ticks_75 : decode cX11_ticks 75 = .ok (.aload_n 0, 1) := by decide +kernel
theorem dX11_ticks_76 : decode cX11_ticks 76 = .ok (.getfield 7, 3) := by decide +kernel
theorem dX11_ticks_79 : decode cX11_ticks 79 = .ok (.bipush 8, 2) := by decide +kernel
theorem dX11_ticks_81 : decode cX11_ticks 81 = .ok (.iaload, 1) := by decide +kernel
theorem dX11_ticks_82 : decode cX11_ticks 82 = .ok (.aload_n 0, 1) := by decide +kernel
theorem dX11_ticks_83 : decode cX11_ticks 83 = .ok (.getfield 7, 3) := by decide +kernel
theorem dX11_ticks_86 : decode cX11_ticks 86 = .ok (.iload_n 1, 1) := by decide +kernel
theorem dX11_ticks_87 : decode cX11_ticks 87 = .ok (.iconst 2, 1) := by decide +kernel
theorem dX11_ticks_88 : decode cX11_ticks 88 = .ok (.iadd, 1) := by decide +kernel
theorem dX11_ticks_89 : decode cX11_ticks 89 = .ok (.iaload, 1) := by decide +kernel
theorem dX11_ticks_90 : decode cX11_ticks 90 = .ok (.if_icmp .ne 35, 3) := by decide +kernel
theorem dX11_ticks_93 : decode cX11_ticks 93 = .ok (.aload_n 0, 1) := by decide +kernel
theorem dX11_ticks_94 : decode cX11_ticks 94 = .ok (.getfield 7, 3) := by decide +kernel
theorem dX11_ticks_97 : decode cX11_ticks 97 = .ok (.bipush 8, 2) := by decide +kernel
theorem dX11_ticks_99 : decode cX11_ticks 99 = .ok (.iconst 0, 1) := by decide +kernel
theorem dX11_ticks_100 : decode cX11_ticks 100 = .ok (.iastore, 1) := by decide +kernel
theorem dX11_ticks_101 : decode cX11_ticks 101 = .ok (.aload_n 0, 1) := by decide +kernel
theorem dX11_ticks_102 : decode cX11_ticks 102 = .ok (.getfield 7, 3) := by decide +kernel
theorem dX11_ticks_105 : decode cX11_ticks 105 = .ok (.bipush 7, 2) := by decide +kernel
theorem dX11_ticks_107 : decode cX11_ticks 107 = .ok (.aload_n 0, 1) := by decide +kernel
theorem dX11_ticks_108 : decode cX11_ticks 108 = .ok (.getfield 7, 3) := by decide +kernel
theorem dX11_ticks_111 : decode cX11_ticks 111 = .ok (.bipush 7, 2) := by decide +kernel
theorem dX11_ticks_113 : decode cX11_ticks 113 = .ok (.iaload, 1) := by decide +kernel
theorem dX11_ticks_114 : decode cX11_ticks 114 = .ok (.iconst 1, 1) := by decide +kernel
theorem dX11_ticks_115 : decode cX11_ticks 115 = .ok (.iadd, 1) := by decide +kernel
theorem dX11_ticks_116 : decode cX11_ticks 116 = .ok (.aload_n 0, 1) := by decide +kernel
theorem dX11_ticks_117 : decode cX11_ticks 117 = .ok (.getfield 7, 3) := by decide +kernel
theorem dX11_ticks_120 : decode cX11_ticks 120 = .ok (.bipush 6, 2) := by decide +kernel
theorem dX11_ticks_122 : decode cX11_ticks 122 = .ok (.iaload, 1) := by decide +kernel
theorem dX11_ticks_123 : decode cX11_ticks 123 = .ok (.irem, 1) := by decide +kernel
theorem dX11_ticks_124 : decode cX11_ticks 124 = .ok (.iastore, 1) := by decide +kernel
theorem dX11_ticks_125 : decode cX11_ticks 125 = .ok (.return_, 1) := by decide +kernel
set_option maxRecDepth 20000 in
theorem ggX11_run_X11_in : GoodIn wsX11_run wsX11_in := goodIn_r _ [6] (by decide +kernel) (by decide +kernel)
set_option maxRecDepth 20000 in
theorem gX11_run_X11_in : GoodIn wsX11_run (va_wsS RX11 37 yX11_in wsX11_in) := goodIn_app (goodIn_of _ (by decide +kernel)) ggX11_run_X11_in
set_option maxRecDepth 20000 in
theorem ggX11_run_X11_goes : GoodIn wsX11_run wsX11_goes := goodIn_r _ [10, 11, 45, 46, 47, 48, 49, 50, 51, 52, 53, 54, 55, 56, 57, 58] (by decide +kernel) (by decide +kernel)
set_option maxRecDepth 20000 in
theorem gX11_run_X11_goes : GoodIn wsX11_run (wsV RX11 57 RX11 yX11_goes wsX11_goes) := goodIn_app (goodIn_of _ (by decide +kernel)) ggX11_run_X11_goes
set_option maxRecDepth 20000 in
theorem ggX11_run_X11_save : GoodIn wsX11_run wsX11_save := goodIn_r _ [15, 16, 17, 2, 45, 46, 47, 48, 49, 50, 51, 52, 53, 54, 55, 56, 57, 58] (by decide +kernel) (by decide +kernel)
set_option maxRecDepth 20000 in
theorem gX11_run_X11_save : GoodIn wsX11_run (wsV RX11 61 RX11 yX11_save wsX11_save) := goodIn_app (goodIn_of _ (by decide +kernel)) ggX11_run_X11_save
set_option maxRecDepth 20000 in
theorem ggX11_run_X11_ticks : GoodIn wsX11_run wsX11_ticks := goodIn_r _ [21, 2, 22, 23, 24, 5, 25, 26, 27, 28, 29, 30, 31, 32, 33, 34, 35, 36, 37, 38, 39, 40, 41, 42, 43, 44, 45, 46, 47, 48, 49, 50, 51, 52, 53, 54, 55, 56, 57, 58] (by decide +kernel) (by decide +kernel)
set_option maxRecDepth 20000 in
theorem gX11_run_X11_ticks : GoodIn wsX11_run (wsV RX11 148 RX11 yX11_ticks wsX11_ticks) := goodIn_app (goodIn_of _ (by decide +kernel)) ggX11_run_X11_ticks
theorem dX11_run_0 : decode cX11_run 0 = .ok (.aload_n 0, 1) := by decide +kernel
theorem dX11_run_1 : decode cX11_run 1 = .ok (.iload_n 1, 1) := by decide +kernel
theorem dX11_run_2 : decode cX11_run 2 = .ok (.i2l, 1) := by decide +kernel
theorem dX11_run_3 : decode cX11_run 3 = .ok (.lconst 0, 1) := by decide +kernel
theorem dX11_run_4 : decode cX11_run 4 = .ok (.ldc2_w 146, 3) := by decide +kernel
theorem dX11_run_7 : decode cX11_run 7 = .ok (.invokestatic 37, 3) := by decide +kernel
theorem dX11_run_10 : decode cX11_run 10 = .ok (.iconst 1, 1) := by decide +kernel
theorem dX11_run_11 : decode cX11_run 11 = .ok (.invokevirtual 57, 3) := by decide +kernel
theorem dX11_run_14 : decode cX11_run 14 = .ok (.ifCond .ne 5, 3) := by decide +kernel
theorem dX11_run_17 : decode cX11_run 17 = .ok (.iconst 0, 1) := by decide +kernel
theorem dX11_run_18 : decode cX11_run 18 = .ok (.ireturn, 1) := by decide +kernel
theorem dX11_run_19 : decode cX11_run 19 = .ok (.aload_n 0, 1) := by decide +kernel
theorem dX11_run_20 : decode cX11_run 20 = .ok (.invokevirtual 61, 3) := by decide +kernel
theorem dX11_run_23 : decode cX11_run 23 = .ok (.iconst 0, 1) := by decide +kernel
theorem dX11_run_24 : decode cX11_run 24 = .ok (.istore_n 2, 1) := by decide +kernel
theorem dX11_run_25 : decode cX11_run 25 = .ok (.iload_n 2, 1) := by decide +kernel
theorem dX11_run_26 : decode cX11_run 26 = .ok (.iload_n 1, 1) := by decide +kernel
theorem dX11_run_27 : decode cX11_run 27 = .ok (.if_icmp .ge 13, 3) := by decide +kernel
theorem dX11_run_30 : decode cX11_run 30 = .ok (.aload_n 0, 1) := by decide +kernel
theorem dX11_run_31 : decode cX11_run 31 = .ok (.invokevirtual 148, 3) := by decide +kernel
theorem dX11_run_34 : decode cX11_run 34 = .ok (.iinc 2 1, 3) := by decide +kernel
theorem dX11_run_37 : decode cX11_run 37 = .ok (.goto (-12), 3) := by decide +kernel
theorem dX11_run_40 : decode cX11_run 40 = .ok (.aload_n 0, 1) := by decide +kernel
theorem dX11_run_41 : decode cX11_run 41 = .ok (.getfield 7, 3) := by decide +kernel
theorem dX11_run_44 : decode cX11_run 44 = .ok (.iconst 0, 1) := by decide +kernel
theorem dX11_run_45 : decode cX11_run 45 = .ok (.iaload, 1) := by decide +kernel
theorem dX11_run_46 : decode cX11_run 46 = .ok (.ireturn, 1) := by decide +kernel
theorem dX11_stepNow_0 : decode cX11_stepNow 0 = .ok (.aload_n 0, 1) := by decide +kernel
theorem dX11_stepNow_1 : decode cX11_stepNow 1 = .ok (.getfield 7, 3) := by decide +kernel
theorem dX11_stepNow_4 : decode cX11_stepNow 4 = .ok (.bipush 6, 2) := by decide +kernel
theorem dX11_stepNow_6 : decode cX11_stepNow 6 = .ok (.iaload, 1) := by decide +kernel
theorem dX11_stepNow_7 : decode cX11_stepNow 7 = .ok (.ifCond .ne 7, 3) := by decide +kernel
theorem dX11_stepNow_10 : decode cX11_stepNow 10 = .ok (.iconst (-1), 1) := by decide +kernel
theorem dX11_stepNow_11 : decode cX11_stepNow 11 = .ok (.goto 10, 3) := by decide +kernel
theorem dX11_stepNow_14 : decode cX11_stepNow 14 = .ok (.aload_n 0, 1) := by decide +kernel
theorem dX11_stepNow_15 : decode cX11_stepNow 15 = .ok (.getfield 7, 3) := by decide +kernel
theorem dX11_stepNow_18 : decode cX11_stepNow 18 = .ok (.bipush 7, 2) := by decide +kernel
theorem dX11_stepNow_20 : decode cX11_stepNow 20 = .ok (.iaload, 1) := by decide +kernel
theorem dX11_stepNow_21 : decode cX11_stepNow 21 = .ok (.ireturn, 1) := by decide +kernel
set_option maxRecDepth 20000 in
theorem ggX11_presentStep_X11_stepNow : GoodIn wsX11_presentStep wsX11_stepNow := goodIn_r _ [6, 7, 8, 9, 10, 11, 12, 13, 14, 15, 16, 17, 18, 19, 20, 21] (by decide +kernel) (by decide +kernel)
set_option maxRecDepth 20000 in
theorem gX11_presentStep_X11_stepNow : GoodIn wsX11_presentStep (wsV RX11 151 RX11 yX11_stepNow wsX11_stepNow) := goodIn_app (goodIn_of _ (by decide +kernel)) ggX11_presentStep_X11_stepNow
theorem dX11_presentStep_0 : decode cX11_presentStep 0 = .ok (.aload_n 0, 1) := by decide +kernel
theorem dX11_presentStep_1 : decode cX11_presentStep 1 = .ok (.iconst 0, 1) := by decide +kernel
theorem dX11_presentStep_2 : decode cX11_presentStep 2 = .ok (.putfield 28, 3) := by decide +kernel
theorem dX11_presentStep_5 : decode cX11_presentStep 5 = .ok (.aload_n 0, 1) := by decide +kernel
theorem dX11_presentStep_6 : decode cX11_presentStep 6 = .ok (.invokevirtual 151, 3) := by decide +kernel
theorem dX11_presentStep_9 : decode cX11_presentStep 9 = .ok (.ireturn, 1) := by decide +kernel
set_option maxRecDepth 20000 in
theorem ggX11_level_X11_isChannel : GoodIn wsX11_level wsX11_isChannel := goodIn_r _ [4, 5, 6, 7, 3, 8] (by decide +kernel) (by decide +kernel)
set_option maxRecDepth 20000 in
theorem gX11_level_X11_isChannel : GoodIn wsX11_level (va_wsS RX11 45 yX11_isChannel wsX11_isChannel) := goodIn_app (goodIn_of _ (by decide +kernel)) ggX11_level_X11_isChannel
set_option maxRecDepth 20000 in
theorem ggX11_level_X11_goes : GoodIn wsX11_level wsX11_goes := goodIn_r _ [12, 13, 19, 20, 21, 22, 23, 24, 25, 26, 27, 28, 29, 30, 31, 32] (by decide +kernel) (by decide +kernel)
set_option maxRecDepth 20000 in
theorem gX11_level_X11_goes : GoodIn wsX11_level (wsV RX11 57 RX11 yX11_goes wsX11_goes) := goodIn_app (goodIn_of _ (by decide +kernel)) ggX11_level_X11_goes
set_option maxRecDepth 20000 in
theorem ggX11_level_X11_levelNow : GoodIn wsX11_level wsX11_levelNow := goodIn_r _ [17, 18, 19, 20, 21, 22, 23, 24, 25, 26, 27, 28, 29, 30, 31, 32] (by decide +kernel) (by decide +kernel)
set_option maxRecDepth 20000 in
theorem gX11_level_X11_levelNow : GoodIn wsX11_level (wsV RX11 136 RX11 yX11_levelNow wsX11_levelNow) := goodIn_app (goodIn_of _ (by decide +kernel)) ggX11_level_X11_levelNow
theorem dX11_level_0 : decode cX11_level 0 = .ok (.aload_n 0, 1) := by decide +kernel
theorem dX11_level_1 : decode cX11_level 1 = .ok (.iload_n 1, 1) := by decide +kernel
theorem dX11_level_2 : decode cX11_level 2 = .ok (.invokestatic 45, 3) := by decide +kernel
theorem dX11_level_5 : decode cX11_level 5 = .ok (.iconst 1, 1) := by decide +kernel
theorem dX11_level_6 : decode cX11_level 6 = .ok (.invokevirtual 57, 3) := by decide +kernel
theorem dX11_level_9 : decode cX11_level 9 = .ok (.ifCond .eq 11, 3) := by decide +kernel
theorem dX11_level_12 : decode cX11_level 12 = .ok (.aload_n 0, 1) := by decide +kernel
theorem dX11_level_13 : decode cX11_level 13 = .ok (.iload_n 1, 1) := by decide +kernel
theorem dX11_level_14 : decode cX11_level 14 = .ok (.invokevirtual 136, 3) := by decide +kernel
theorem dX11_level_17 : decode cX11_level 17 = .ok (.goto 4, 3) := by decide +kernel
theorem dX11_level_20 : decode cX11_level 20 = .ok (.iconst 0, 1) := by decide +kernel
theorem dX11_level_21 : decode cX11_level 21 = .ok (.ireturn, 1) := by decide +kernel
theorem dX11_clears_0 : decode cX11_clears 0 = .ok (.sipush 138, 3) := by decide +kernel
theorem dX11_clears_3 : decode cX11_clears 3 = .ok (.istore_n 1, 1) := by decide +kernel
theorem dX11_clears_4 : decode cX11_clears 4 = .ok (.iload_n 1, 1) := by decide +kernel
theorem dX11_clears_5 : decode cX11_clears 5 = .ok (.sipush 554, 3) := by decide +kernel
theorem dX11_clears_8 : decode cX11_clears 8 = .ok (.if_icmp .ge 32, 3) := by decide +kernel
theorem dX11_clears_11 : decode cX11_clears 11 = .ok (.aload_n 0, 1) := by decide +kernel
theorem dX11_clears_12 : decode cX11_clears 12 = .ok (.getfield 7, 3) := by decide +kernel
theorem dX11_clears_15 : decode cX11_clears 15 = .ok (.iload_n 1, 1) := by decide +kernel
theorem dX11_clears_16 : decode cX11_clears 16 = .ok (.iload_n 1, 1) := by decide +kernel
theorem dX11_clears_17 : decode cX11_clears 17 = .ok (.sipush 138, 3) := by decide +kernel
theorem dX11_clears_20 : decode cX11_clears 20 = .ok (.isub, 1) := by decide +kernel
theorem dX11_clears_21 : decode cX11_clears 21 = .ok (.bipush 13, 2) := by decide +kernel
theorem dX11_clears_23 : decode cX11_clears 23 = .ok (.irem, 1) := by decide +kernel
theorem dX11_clears_24 : decode cX11_clears 24 = .ok (.iconst 2, 1) := by decide +kernel
theorem dX11_clears_25 : decode cX11_clears 25 = .ok (.if_icmp .ne 7, 3) := by decide +kernel
theorem dX11_clears_28 : decode cX11_clears 28 = .ok (.iconst (-1), 1) := by decide +kernel
theorem dX11_clears_29 : decode cX11_clears 29 = .ok (.goto 4, 3) := by decide +kernel
theorem dX11_clears_32 : decode cX11_clears 32 = .ok (.iconst 0, 1) := by decide +kernel
theorem dX11_clears_33 : decode cX11_clears 33 = .ok (.iastore, 1) := by decide +kernel
theorem dX11_clears_34 : decode cX11_clears 34 = .ok (.iinc 1 1, 3) := by decide +kernel
theorem dX11_clears_37 : decode cX11_clears 37 = .ok (.goto (-33), 3) := by decide +kernel
theorem dX11_clears_40 : decode cX11_clears 40 = .ok (.aload_n 0, 1) := by decide +kernel
theorem dX11_clears_41 : decode cX11_clears 41 = .ok (.getfield 7, 3) := by decide +kernel
theorem dX11_clears_44 : decode cX11_clears 44 = .ok (.bipush 9, 2) := by decide +kernel
theorem dX11_clears_46 : decode cX11_clears 46 = .ok (.iconst 0, 1) := by decide +kernel
