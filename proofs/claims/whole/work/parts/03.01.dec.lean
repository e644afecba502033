set_option maxRecDepth 20000 in
theorem gX5_add_X9_set : GoodIn wsX5_add (wsV RX5 30 RX9 yX9_set wsX9_set) := goodIn_app (goodIn_of _ (by decide +kernel)) ggX5_add_X9_set
theorem dX5_add_0 : decode cX5_add 0 = .ok (.aload_n 0, 1) := by decide +kernel
theorem dX5_add_1 : decode cX5_add 1 = .ok (.getfield 14, 3) := by decide +kernel
theorem dX5_add_4 : decode cX5_add 4 = .ok (.aload_n 0, 1) := by decide +kernel
theorem dX5_add_5 : decode cX5_add 5 = .ok (.getfield 20, 3) := by decide +kernel
theorem dX5_add_8 : decode cX5_add 8 = .ok (.iconst 0, 1) := by decide +kernel
theorem dX5_add_9 : decode cX5_add 9 = .ok (.iload_n 1, 1) := by decide +kernel
theorem dX5_add_10 : decode cX5_add 10 = .ok (.invokevirtual 30, 3) := by decide +kernel
theorem dX5_add_13 : decode cX5_add 13 = .ok (.aload_n 0, 1) := by decide +kernel
theorem dX5_add_14 : decode cX5_add 14 = .ok (.getfield 14, 3) := by decide +kernel
theorem dX5_add_17 : decode cX5_add 17 = .ok (.aload_n 0, 1) := by decide +kernel
theorem dX5_add_18 : decode cX5_add 18 = .ok (.getfield 20, 3) := by decide +kernel
theorem dX5_add_21 : decode cX5_add 21 = .ok (.iconst 1, 1) := by decide +kernel
theorem dX5_add_22 : decode cX5_add 22 = .ok (.iload_n 2, 1) := by decide +kernel
theorem dX5_add_23 : decode cX5_add 23 = .ok (.invokevirtual 30, 3) := by decide +kernel
theorem dX5_add_26 : decode cX5_add 26 = .ok (.aload_n 0, 1) := by decide +kernel
theorem dX5_add_27 : decode cX5_add 27 = .ok (.getfield 14, 3) := by decide +kernel
theorem dX5_add_30 : decode cX5_add 30 = .ok (.aload_n 0, 1) := by decide +kernel
theorem dX5_add_31 : decode cX5_add 31 = .ok (.getfield 20, 3) := by decide +kernel
theorem dX5_add_34 : decode cX5_add 34 = .ok (.iconst 2, 1) := by decide +kernel
theorem dX5_add_35 : decode cX5_add 35 = .ok (.iload_n 3, 1) := by decide +kernel
theorem dX5_add_36 : decode cX5_add 36 = .ok (.invokevirtual 30, 3) := by decide +kernel
theorem dX5_add_39 : decode cX5_add 39 = .ok (.aload_n 0, 1) := by decide +kernel
theorem dX5_add_40 : decode cX5_add 40 = .ok (.dup, 1) := by decide +kernel
theorem dX5_add_41 : decode cX5_add 41 = .ok (.getfield 20, 3) := by decide +kernel
theorem dX5_add_44 : decode cX5_add 44 = .ok (.iconst 1, 1) := by decide +kernel
theorem dX5_add_45 : decode cX5_add 45 = .ok (.iadd, 1) := by decide +kernel
theorem dX5_add_46 : decode cX5_add 46 = .ok (.putfield 20, 3) := by decide +kernel
theorem dX5_add_49 : decode cX5_add 49 = .ok (.return_, 1) := by decide +kernel
theorem dX5_nextStep_0 : decode cX5_nextStep 0 = .ok (.aload_n 0, 1) := by decide +kernel
theorem dX5_nextStep_1 : decode cX5_nextStep 1 = .ok (.getfield 20, 3) := by decide +kernel
theorem dX5_nextStep_4 : decode cX5_nextStep 4 = .ok (.ifCond .ne 7, 3) := by decide +kernel
theorem dX5_nextStep_7 : decode cX5_nextStep 7 = .ok (.iconst (-1), 1) := by decide +kernel
theorem dX5_nextStep_8 : decode cX5_nextStep 8 = .ok (.goto 7, 3) := by decide +kernel
theorem dX5_nextStep_11 : decode cX5_nextStep 11 = .ok (.aload_n 0, 1) := by decide +kernel
theorem dX5_nextStep_12 : decode cX5_nextStep 12 = .ok (.getfield 24, 3) := by decide +kernel
theorem dX5_nextStep_15 : decode cX5_nextStep 15 = .ok (.ireturn, 1) := by decide +kernel
set_option maxRecDepth 20000 in
theorem ggX5_covers_X9_get : GoodIn wsX5_covers wsX9_get := goodIn_r _ [6, 7, 8, 9, 14, 15, 16] (by decide +kernel) (by decide +kernel)
set_option maxRecDepth 20000 in
theorem gX5_covers_X9_get : GoodIn wsX5_covers (wsV RX5 34 RX9 yX9_get wsX9_get) := goodIn_app (goodIn_of _ (by decide +kernel)) ggX5_covers_X9_get
theorem dX5_covers_0 : decode cX5_covers 0 = .ok (.iload_n 2, 1) := by decide +kernel
theorem dX5_covers_1 : decode cX5_covers 1 = .ok (.aload_n 0, 1) := by decide +kernel
theorem dX5_covers_2 : decode cX5_covers 2 = .ok (.getfield 14, 3) := by decide +kernel
theorem dX5_covers_5 : decode cX5_covers 5 = .ok (.iload_n 1, 1) := by decide +kernel
theorem dX5_covers_6 : decode cX5_covers 6 = .ok (.iconst 0, 1) := by decide +kernel
theorem dX5_covers_7 : decode cX5_covers 7 = .ok (.invokevirtual 34, 3) := by decide +kernel
theorem dX5_covers_10 : decode cX5_covers 10 = .ok (.if_icmp .lt 20, 3) := by decide +kernel
theorem dX5_covers_13 : decode cX5_covers 13 = .ok (.iload_n 2, 1) := by decide +kernel
theorem dX5_covers_14 : decode cX5_covers 14 = .ok (.aload_n 0, 1) := by decide +kernel
theorem dX5_covers_15 : decode cX5_covers 15 = .ok (.getfield 14, 3) := by decide +kernel
theorem dX5_covers_18 : decode cX5_covers 18 = .ok (.iload_n 1, 1) := by decide +kernel
theorem dX5_covers_19 : decode cX5_covers 19 = .ok (.iconst 1, 1) := by decide +kernel
theorem dX5_covers_20 : decode cX5_covers 20 = .ok (.invokevirtual 34, 3) := by decide +kernel
theorem dX5_covers_23 : decode cX5_covers 23 = .ok (.if_icmp .gt 7, 3) := by decide +kernel
theorem dX5_covers_26 : decode cX5_covers 26 = .ok (.iconst 1, 1) := by decide +kernel
theorem dX5_covers_27 : decode cX5_covers 27 = .ok (.goto 4, 3) := by decide +kernel
theorem dX5_covers_30 : decode cX5_covers 30 = .ok (.iconst 0, 1) := by decide +kernel
theorem dX5_covers_31 : decode cX5_covers 31 = .ok (.ireturn, 1) := by decide +kernel
set_option maxRecDepth 20000 in
theorem ggX5_passTick_X9_get : GoodIn wsX5_passTick wsX9_get := goodIn_r _ [9, 10, 11, 12, 17, 18, 19] (by decide +kernel) (by decide +kernel)
set_option maxRecDepth 20000 in
theorem gX5_passTick_X9_get : GoodIn wsX5_passTick (wsV RX5 34 RX9 yX9_get wsX9_get) := goodIn_app (goodIn_of _ (by decide +kernel)) ggX5_passTick_X9_get
theorem dX5_passTick_0 : decode cX5_passTick 0 = .ok (.aload_n 0, 1) := by decide +kernel
theorem dX5_passTick_1 : decode cX5_passTick 1 = .ok (.dup, 1) := by decide +kernel
theorem dX5_passTick_2 : decode cX5_passTick 2 = .ok (.getfield 27, 3) := by decide +kernel
theorem dX5_passTick_5 : decode cX5_passTick 5 = .ok (.iconst 1, 1) := by decide +kernel
theorem dX5_passTick_6 : decode cX5_passTick 6 = .ok (.iadd, 1) := by decide +kernel
theorem dX5_passTick_7 : decode cX5_passTick 7 = .ok (.putfield 27, 3) := by decide +kernel
theorem dX5_passTick_10 : decode cX5_passTick 10 = .ok (.aload_n 0, 1) := by decide +kernel
theorem dX5_passTick_11 : decode cX5_passTick 11 = .ok (.getfield 27, 3) := by decide +kernel
theorem dX5_passTick_14 : decode cX5_passTick 14 = .ok (.aload_n 0, 1) := by decide +kernel
theorem dX5_passTick_15 : decode cX5_passTick 15 = .ok (.getfield 14, 3) := by decide +kernel
theorem dX5_passTick_18 : decode cX5_passTick 18 = .ok (.aload_n 0, 1) := by decide +kernel
theorem dX5_passTick_19 : decode cX5_passTick 19 = .ok (.getfield 24, 3) := by decide +kernel
theorem dX5_passTick_22 : decode cX5_passTick 22 = .ok (.iconst 2, 1) := by decide +kernel
theorem dX5_passTick_23 : decode cX5_passTick 23 = .ok (.invokevirtual 34, 3) := by decide +kernel
theorem dX5_passTick_26 : decode cX5_passTick 26 = .ok (.if_icmp .lt 35, 3) := by decide +kernel
theorem dX5_passTick_29 : decode cX5_passTick 29 = .ok (.aload_n 0, 1) := by decide +kernel
theorem dX5_passTick_30 : decode cX5_passTick 30 = .ok (.iconst 0, 1) := by decide +kernel
theorem dX5_passTick_31 : decode cX5_passTick 31 = .ok (.putfield 27, 3) := by decide +kernel
theorem dX5_passTick_34 : decode cX5_passTick 34 = .ok (.aload_n 0, 1) := by decide +kernel
theorem dX5_passTick_35 : decode cX5_passTick 35 = .ok (.aload_n 0, 1) := by decide +kernel
theorem dX5_passTick_36 : decode cX5_passTick 36 = .ok (.getfield 24, 3) := by decide +kernel
theorem dX5_passTick_39 : decode cX5_passTick 39 = .ok (.iconst 1, 1) := by decide +kernel
theorem dX5_passTick_40 : decode cX5_passTick 40 = .ok (.iadd, 1) := by decide +kernel
theorem dX5_passTick_41 : decode cX5_passTick 41 = .ok (.aload_n 0, 1) := by decide +kernel
theorem dX5_passTick_42 : decode cX5_passTick 42 = .ok (.getfield 20, 3) := by decide +kernel
theorem dX5_passTick_45 : decode cX5_passTick 45 = .ok (.if_icmp .ge 12, 3) := by decide +kernel
theorem dX5_passTick_48 : decode cX5_passTick 48 = .ok (.aload_n 0, 1) := by decide +kernel
theorem dX5_passTick_49 : decode cX5_passTick 49 = .ok (.getfield 24, 3) := by decide +kernel
theorem dX5_passTick_52 : decode cX5_passTick 52 = .ok (.iconst 1, 1) := by decide +kernel
theorem dX5_passTick_53 : decode cX5_passTick 53 = .ok (.iadd, 1) := by decide +kernel
theorem dX5_passTick_54 : decode cX5_passTick 54 = .ok (.goto 4, 3) := by decide +kernel
theorem dX5_passTick_57 : decode cX5_passTick 57 = .ok (.iconst 0, 1) := by decide +kernel
theorem dX5_passTick_58 : decode cX5_passTick 58 = .ok (.putfield 24, 3) := by decide +kernel
theorem dX5_passTick_61 : decode cX5_passTick 61 = .ok (.return_, 1) := by decide +kernel
set_option maxRecDepth 20000 in
theorem ggX5_revisitTime_X5_covers : GoodIn wsX5_revisitTime wsX5_covers := goodIn_r _ [11, 2, 12, 13, 14, 15, 16, 17, 18, 19, 20, 21, 22, 23, 24, 25, 26] (by decide +kernel) (by decide +kernel)
set_option maxRecDepth 20000 in
theorem gX5_revisitTime_X5_covers : GoodIn wsX5_revisitTime (wsV RX5 38 RX5 yX5_covers wsX5_covers) := goodIn_app (goodIn_of _ (by decide +kernel)) ggX5_revisitTime_X5_covers
set_option maxRecDepth 20000 in
theorem ggX5_revisitTime_X9_get : GoodIn wsX5_revisitTime wsX9_get := goodIn_r _ [16, 17, 18, 19, 24, 25, 26] (by decide +kernel) (by decide +kernel)
set_option maxRecDepth 20000 in
theorem gX5_revisitTime_X9_get : GoodIn wsX5_revisitTime (wsV RX5 34 RX9 yX9_get wsX9_get) := goodIn_app (goodIn_of _ (by decide +kernel)) ggX5_revisitTime_X9_get
theorem dX5_revisitTime_0 : decode cX5_revisitTime 0 = .ok (.iconst (-1), 1) := by decide +kernel
theorem dX5_revisitTime_1 : decode cX5_revisitTime 1 = .ok (.istore_n 2, 1) := by decide +kernel
theorem dX5_revisitTime_2 : decode cX5_revisitTime 2 = .ok (.iconst 0, 1) := by decide +kernel
theorem dX5_revisitTime_3 : decode cX5_revisitTime 3 = .ok (.istore_n 3, 1) := by decide +kernel
theorem dX5_revisitTime_4 : decode cX5_revisitTime 4 = .ok (.iconst 0, 1) := by decide +kernel
theorem dX5_revisitTime_5 : decode cX5_revisitTime 5 = .ok (.istore 4, 2) := by decide +kernel
theorem dX5_revisitTime_7 : decode cX5_revisitTime 7 = .ok (.iconst 0, 1) := by decide +kernel
theorem dX5_revisitTime_8 : decode cX5_revisitTime 8 = .ok (.istore 5, 2) := by decide +kernel
theorem dX5_revisitTime_10 : decode cX5_revisitTime 10 = .ok (.iload 5, 2) := by decide +kernel
theorem dX5_revisitTime_12 : decode cX5_revisitTime 12 = .ok (.iconst 2, 1) := by decide +kernel
theorem dX5_revisitTime_13 : decode cX5_revisitTime 13 = .ok (.aload_n 0, 1) := by decide +kernel
theorem dX5_revisitTime_14 : decode cX5_revisitTime 14 = .ok (.getfield 20, 3) := by decide +kernel
theorem dX5_revisitTime_17 : decode cX5_revisitTime 17 = .ok (.imul, 1) := by decide +kernel
theorem dX5_revisitTime_18 : decode cX5_revisitTime 18 = .ok (.if_icmp .ge 76, 3) := by decide +kernel
theorem dX5_revisitTime_21 : decode cX5_revisitTime 21 = .ok (.iload 5, 2) := by decide +kernel
theorem dX5_revisitTime_23 : decode cX5_revisitTime 23 = .ok (.aload_n 0, 1) := by decide +kernel
theorem dX5_revisitTime_24 : decode cX5_revisitTime 24 = .ok (.getfield 20, 3) := by decide +kernel
theorem dX5_revisitTime_27 : decode cX5_revisitTime 27 = .ok (.if_icmp .ge 8, 3) := by decide +kernel
theorem dX5_revisitTime_30 : decode cX5_revisitTime 30 = .ok (.iload 5, 2) := by decide +kernel
theorem dX5_revisitTime_32 : decode cX5_revisitTime 32 = .ok (.goto 10, 3) := by decide +kernel
theorem dX5_revisitTime_35 : decode cX5_revisitTime 35 = .ok (.iload 5, 2) := by decide +kernel
theorem dX5_revisitTime_37 : decode cX5_revisitTime 37 = .ok (.aload_n 0, 1) := by decide +kernel
theorem dX5_revisitTime_38 : decode cX5_revisitTime 38 = .ok (.getfield 20, 3) := by decide +kernel
theorem dX5_revisitTime_41 : decode cX5_revisitTime 41 = .ok (.isub, 1) := by decide +kernel
theorem dX5_revisitTime_42 : decode cX5_revisitTime 42 = .ok (.istore 6, 2) := by decide +kernel
theorem dX5_revisitTime_44 : decode cX5_revisitTime 44 = .ok (.aload_n 0, 1) := by decide +kernel
theorem dX5_revisitTime_45 : decode cX5_revisitTime 45 = .ok (.iload 6, 2) := by decide +kernel
theorem dX5_revisitTime_47 : decode cX5_revisitTime 47 = .ok (.iload_n 1, 1) := by decide +kernel
theorem dX5_revisitTime_48 : decode cX5_revisitTime 48 = .ok (.invokevirtual 38, 3) := by decide +kernel
theorem dX5_revisitTime_51 : decode cX5_revisitTime 51 = .ok (.ifCond .ne 19, 3) := by decide +kernel
theorem dX5_revisitTime_54 : decode cX5_revisitTime 54 = .ok (.iload_n 3, 1) := by decide +kernel
theorem dX5_revisitTime_55 : decode cX5_revisitTime 55 = .ok (.aload_n 0, 1) := by decide +kernel
theorem dX5_revisitTime_56 : decode cX5_revisitTime 56 = .ok (.getfield 14, 3) := by decide +kernel
theorem dX5_revisitTime_59 : decode cX5_revisitTime 59 = .ok (.iload 6, 2) := by decide +kernel
theorem dX5_revisitTime_61 : decode cX5_revisitTime 61 = .ok (.iconst 2, 1) := by decide +kernel
theorem dX5_revisitTime_62 : decode cX5_revisitTime 62 = .ok (.invokevirtual 34, 3) := by decide +kernel
theorem dX5_revisitTime_65 : decode cX5_revisitTime 65 = .ok (.iadd, 1) := by decide +kernel
theorem dX5_revisitTime_66 : decode cX5_revisitTime 66 = .ok (.istore_n 3, 1) := by decide +kernel
theorem dX5_revisitTime_67 : decode cX5_revisitTime 67 = .ok (.goto 21, 3) := by decide +kernel
theorem dX5_revisitTime_70 : decode cX5_revisitTime 70 = .ok (.iload 4, 2) := by decide +kernel
theorem dX5_revisitTime_72 : decode cX5_revisitTime 72 = .ok (.ifCond .eq 11, 3) := by decide +kernel
theorem dX5_revisitTime_75 : decode cX5_revisitTime 75 = .ok (.iload_n 2, 1) := by decide +kernel
theorem dX5_revisitTime_76 : decode cX5_revisitTime 76 = .ok (.iload_n 3, 1) := by decide +kernel
theorem dX5_revisitTime_77 : decode cX5_revisitTime 77 = .ok (.iconst 1, 1) := by decide +kernel
theorem dX5_revisitTime_78 : decode cX5_revisitTime 78 = .ok (.iadd, 1) := by decide +kernel
theorem dX5_revisitTime_79 : decode cX5_revisitTime 79 = .ok (.invokestatic 42, 3) := by decide +kernel
theorem dX5_revisitTime_82 : decode cX5_revisitTime 82 = .ok (.istore_n 2, 1) := by decide +kernel
theorem dX5_revisitTime_83 : decode cX5_revisitTime 83 = .ok (.iconst 1, 1) := by decide +kernel
theorem dX5_revisitTime_84 : decode cX5_revisitTime 84 = .ok (.istore 4, 2) := by decide +kernel
theorem dX5_revisitTime_86 : decode cX5_revisitTime 86 = .ok (.iconst 0, 1) := by decide +kernel
theorem dX5_revisitTime_87 : decode cX5_revisitTime 87 = .ok (.istore_n 3, 1) := by decide +kernel
theorem dX5_revisitTime_88 : decode cX5_revisitTime 88 = .ok (.iinc 5 1, 3) := by decide +kernel
theorem dX5_revisitTime_91 : decode cX5_revisitTime 91 = .ok (.goto (-81), 3) := by decide +kernel
theorem dX5_revisitTime_94 : decode cX5_revisitTime 94 = .ok (.iload_n 2, 1) := by decide +kernel
theorem dX5_revisitTime_95 : decode cX5_revisitTime 95 = .ok (.ireturn, 1) := by decide +kernel
set_option maxRecDepth 20000 in
theorem ggX5_write_X9_get : GoodIn wsX5_write wsX9_get := goodIn_r _ [7, 8, 9, 10, 32, 33, 34] (by decide +kernel) (by decide +kernel)
set_option maxRecDepth 20000 in
theorem gX5_write_X9_get : GoodIn wsX5_write (wsV RX5 34 RX9 yX9_get wsX9_get) := goodIn_app (goodIn_of _ (by decide +kernel)) ggX5_write_X9_get
set_option maxRecDepth 20000 in
theorem ggX5_write_X0_putNumber : GoodIn wsX5_write wsX0_putNumber := goodIn_r _ [15, 16, 17, 18, 14, 19, 20, 21, 22, 23, 24, 26, 27] (by decide +kernel) (by decide +kernel)
set_option maxRecDepth 20000 in
theorem gX5_write_X0_putNumber : GoodIn wsX5_write (wsV RX5 52 RX0 yX0_putNumber wsX0_putNumber) := goodIn_app (goodIn_of _ (by decide +kernel)) ggX5_write_X0_putNumber
set_option maxRecDepth 20000 in
theorem ggX5_write_X0_put : GoodIn wsX5_write wsX0_put := goodIn_r _ [19, 20, 21, 22, 23, 24, 26, 27] (by decide +kernel) (by decide +kernel)
set_option maxRecDepth 20000 in
theorem gX5_write_X0_put : GoodIn wsX5_write (wsV RX5 56 RX0 yX0_put wsX0_put) := goodIn_app (goodIn_of _ (by decide +kernel)) ggX5_write_X0_put
theorem dX5_write_0 : decode cX5_write 0 = .ok (.aload_n 1, 1) := by decide +kernel
theorem dX5_write_1 : decode cX5_write 1 = .ok (.iconst 0, 1) := by decide +kernel
theorem dX5_write_2 : decode cX5_write 2 = .ok (.putfield 47, 3) := by decide +kernel
theorem dX5_write_5 : decode cX5_write 5 = .ok (.iconst 0, 1) := by decide +kernel
theorem dX5_write_6 : decode cX5_write 6 = .ok (.istore_n 2, 1) := by decide +kernel
theorem dX5_write_7 : decode cX5_write 7 = .ok (.iload_n 2, 1) := by decide +kernel
theorem dX5_write_8 : decode cX5_write 8 = .ok (.aload_n 0, 1) := by decide +kernel
theorem dX5_write_9 : decode cX5_write 9 = .ok (.getfield 20, 3) := by decide +kernel
theorem dX5_write_12 : decode cX5_write 12 = .ok (.if_icmp .ge 78, 3) := by decide +kernel
theorem dX5_write_15 : decode cX5_write 15 = .ok (.aload_n 0, 1) := by decide +kernel
theorem dX5_write_16 : decode cX5_write 16 = .ok (.getfield 14, 3) := by decide +kernel
theorem dX5_write_19 : decode cX5_write 19 = .ok (.iload_n 2, 1) := by decide +kernel
theorem dX5_write_20 : decode cX5_write 20 = .ok (.iconst 0, 1) := by decide +kernel
theorem dX5_write_21 : decode cX5_write 21 = .ok (.invokevirtual 34, 3) := by decide +kernel
theorem dX5_write_24 : decode cX5_write 24 = .ok (.istore_n 3, 1) := by decide +kernel
theorem dX5_write_25 : decode cX5_write 25 = .ok (.aload_n 0, 1) := by decide +kernel
theorem dX5_write_26 : decode cX5_write 26 = .ok (.getfield 14, 3) := by decide +kernel
theorem dX5_write_29 : decode cX5_write 29 = .ok (.iload_n 2, 1) := by decide +kernel
theorem dX5_write_30 : decode cX5_write 30 = .ok (.iconst 1, 1) := by decide +kernel
theorem dX5_write_31 : decode cX5_write 31 = .ok (.invokevirtual 34, 3) := by decide +kernel
theorem dX5_write_34 : decode cX5_write 34 = .ok (.istore 4, 2) := by decide +kernel
theorem dX5_write_36 : decode cX5_write 36 = .ok (.aload_n 1, 1) := by decide +kernel
theorem dX5_write_37 : decode cX5_write 37 = .ok (.iload_n 3, 1) := by decide +kernel
theorem dX5_write_38 : decode cX5_write 38 = .ok (.invokevirtual 52, 3) := by decide +kernel
theorem dX5_write_41 : decode cX5_write 41 = .ok (.iload 4, 2) := by decide +kernel
theorem dX5_write_43 : decode cX5_write 43 = .ok (.iload_n 3, 1) := by decide +kernel
theorem dX5_write_44 : decode cX5_write 44 = .ok (.if_icmp .eq 15, 3) := by decide +kernel
theorem dX5_write_47 : decode cX5_write 47 = .ok (.aload_n 1, 1) := by decide +kernel
theorem dX5_write_48 : decode cX5_write 48 = .ok (.bipush 45, 2) := by decide +kernel
theorem dX5_write_50 : decode cX5_write 50 = .ok (.invokevirtual 56, 3) := by decide +kernel
theorem dX5_write_53 : decode cX5_write 53 = .ok (.aload_n 1, 1) := by decide +kernel
theorem dX5_write_54 : decode cX5_write 54 = .ok (.iload 4, 2) := by decide +kernel
theorem dX5_write_56 : decode cX5_write 56 = .ok (.invokevirtual 52, 3) := by decide +kernel
theorem dX5_write_59 : decode cX5_write 59 = .ok (.aload_n 1, 1) := by decide +kernel
theorem dX5_write_60 : decode cX5_write 60 = .ok (.bipush 58, 2) := by decide +kernel
theorem dX5_write_62 : decode cX5_write 62 = .ok (.invokevirtual 56, 3) := by decide +kernel
theorem dX5_write_65 : decode cX5_write 65 = .ok (.aload_n 1, 1) := by decide +kernel
theorem dX5_write_66 : decode cX5_write 66 = .ok (.aload_n 0, 1) := by decide +kernel
theorem dX5_write_67 : decode cX5_write 67 = .ok (.getfield 14, 3) := by decide +kernel
theorem dX5_write_70 : decode cX5_write 70 = .ok (.iload_n 2, 1) := by decide +kernel
theorem dX5_write_71 : decode cX5_write 71 = .ok (.iconst 2, 1) := by decide +kernel
theorem dX5_write_72 : decode cX5_write 72 = .ok (.invokevirtual 34, 3) := by decide +kernel
theorem dX5_write_75 : decode cX5_write 75 = .ok (.invokevirtual 52, 3) := by decide +kernel
theorem dX5_write_78 : decode cX5_write 78 = .ok (.aload_n 1, 1) := by decide +kernel
theorem dX5_write_79 : decode cX5_write 79 = .ok (.bipush 59, 2) := by decide +kernel
theorem dX5_write_81 : decode cX5_write 81 = .ok (.invokevirtual 56, 3) := by decide +kernel
theorem dX5_write_84 : decode cX5_write 84 = .ok (.iinc 2 1, 3) := by decide +kernel
theorem dX5_write_87 : decode cX5_write 87 = .ok (.goto (-80), 3) := by decide +kernel
theorem dX5_write_90 : decode cX5_write 90 = .ok (.return_, 1) := by decide +kernel
set_option maxRecDepth 20000 in
theorem ggX5_copyFrom_X9_copyFrom : GoodIn wsX5_copyFrom wsX9_copyFrom := goodIn_r _ [9, 10, 11, 12, 13, 14, 15, 16, 17, 18, 23, 24, 25] (by decide +kernel) (by decide +kernel)
set_option maxRecDepth 20000 in
theorem gX5_copyFrom_X9_copyFrom : GoodIn wsX5_copyFrom (wsV RX5 59 RX9 yX9_copyFrom wsX9_copyFrom) := goodIn_app (goodIn_of _ (by decide +kernel)) ggX5_copyFrom_X9_copyFrom
theorem dX5_copyFrom_0 : decode cX5_copyFrom 0 = .ok (.aload_n 0, 1) := by decide +kernel
theorem dX5_copyFrom_1 : decode cX5_copyFrom 1 = .ok (.getfield 14, 3) := by decide +kernel
theorem dX5_copyFrom_4 : decode cX5_copyFrom 4 = .ok (.aload_n 1, 1) := by decide +kernel
theorem dX5_copyFrom_5 : decode cX5_copyFrom 5 = .ok (.getfield 14, 3) := by decide +kernel
theorem dX5_copyFrom_8 : decode cX5_copyFrom 8 = .ok (.invokevirtual 59, 3) := by decide +kernel
theorem dX5_copyFrom_11 : decode cX5_copyFrom 11 = .ok (.aload_n 0, 1) := by decide +kernel
theorem dX5_copyFrom_12 : decode cX5_copyFrom 12 = .ok (.aload_n 1, 1) := by decide +kernel
theorem dX5_copyFrom_13 : decode cX5_copyFrom 13 = .ok (.getfield 20, 3) := by decide +kernel
theorem dX5_copyFrom_16 : decode cX5_copyFrom 16 = .ok (.putfield 20, 3) := by decide +kernel
theorem dX5_copyFrom_19 : decode cX5_copyFrom 19 = .ok (.aload_n 0, 1) := by decide +kernel
theorem dX5_copyFrom_20 : decode cX5_copyFrom 20 = .ok (.aload_n 1, 1) := by decide +kernel
theorem dX5_copyFrom_21 : decode cX5_copyFrom 21 = .ok (.getfield 24, 3) := by decide +kernel
theorem dX5_copyFrom_24 : decode cX5_copyFrom 24 = .ok (.putfield 24, 3) := by decide +kernel
theorem dX5_copyFrom_27 : decode cX5_copyFrom 27 = .ok (.aload_n 0, 1) := by decide +kernel
theorem dX5_copyFrom_28 : decode cX5_copyFrom 28 = .ok (.aload_n 1, 1) := by decide +kernel
theorem dX5_copyFrom_29 : decode cX5_copyFrom 29 = .ok (.getfield 27, 3) := by decide +kernel
theorem dX5_copyFrom_32 : decode cX5_copyFrom 32 = .ok (.putfield 27, 3) := by decide +kernel
theorem dX5_copyFrom_35 : decode cX5_copyFrom 35 = .ok (.return_, 1) := by decide +kernel
set_option maxRecDepth 20000 in
theorem ggX6_init_X0_init : GoodIn wsX6_init wsX0_init := goodIn_r _ [14, 15, 2, 3, 16, 17, 18, 19, 20, 21, 37, 38] (by decide +kernel) (by decide +kernel)
set_option maxRecDepth 20000 in
theorem gX6_init_X0_init : GoodIn wsX6_init (wsX0_init) := ggX6_init_X0_init
set_option maxRecDepth 20000 in
theorem ggX6_init_X5_init : GoodIn wsX6_init wsX5_init := goodIn_r _ [23, 24, 2, 3, 25, 26, 27, 28, 29, 30, 31, 32, 33, 34, 35, 17, 18, 19, 20, 36, 47, 48, 49, 43, 44, 45, 46] (by decide +kernel) (by decide +kernel)
set_option maxRecDepth 20000 in
theorem gX6_init_X5_init_n22 : GoodIn wsX6_init (wsX5_init) := ggX6_init_X5_init
theorem dX6_init_0 : decode cX6_init 0 = .ok (.aload_n 0, 1) := by decide +kernel
theorem dX6_init_1 : decode cX6_init 1 = .ok (.invokespecial 3, 3) := by decide +kernel
theorem dX6_init_4 : decode cX6_init 4 = .ok (.aload_n 0, 1) := by decide +kernel
theorem dX6_init_5 : decode cX6_init 5 = .ok (.new 9, 3) := by decide +kernel
theorem dX6_init_8 : decode cX6_init 8 = .ok (.dup, 1) := by decide +kernel
theorem dX6_init_9 : decode cX6_init 9 = .ok (.bipush 100, 2) := by decide +kernel
theorem dX6_init_11 : decode cX6_init 11 = .ok (.invokespecial 11, 3) := by decide +kernel
theorem dX6_init_14 : decode cX6_init 14 = .ok (.putfield 14, 3) := by decide +kernel
theorem dX6_init_17 : decode cX6_init 17 = .ok (.aload_n 0, 1) := by decide +kernel
theorem dX6_init_18 : decode cX6_init 18 = .ok (.new 20, 3) := by decide +kernel
theorem dX6_init_21 : decode cX6_init 21 = .ok (.dup, 1) := by decide +kernel
theorem dX6_init_22 : decode cX6_init 22 = .ok (.invokespecial 22, 3) := by decide +kernel
theorem dX6_init_25 : decode cX6_init 25 = .ok (.putfield 23, 3) := by decide +kernel
theorem dX6_init_28 : decode cX6_init 28 = .ok (.return_, 1) := by decide +kernel
set_option maxRecDepth 20000 in
theorem ggX6_parse_X5_clear : GoodIn wsX6_parse wsX5_clear := goodIn_r _ [9, 10, 11, 12, 71, 72, 73, 74] (by decide +kernel) (by decide +kernel)
set_option maxRecDepth 20000 in
theorem gX6_parse_X5_clear : GoodIn wsX6_parse (wsV RX6 34 RX5 yX5_clear wsX5_clear) := goodIn_app (goodIn_of _ (by decide +kernel)) ggX6_parse_X5_clear
set_option maxRecDepth 20000 in
theorem ggX6_parse_X6_skipSpaces : GoodIn wsX6_parse wsX6_skipSpaces := goodIn_r _ [17, 1, 4, 18, 19, 20, 21, 22, 23, 24, 25, 26, 27, 65, 66, 67, 68, 69, 70] (by decide +kernel) (by decide +kernel)
set_option maxRecDepth 20000 in
theorem gX6_parse_X6_skipSpaces : GoodIn wsX6_parse (wsV RX6 37 RX6 yX6_skipSpaces wsX6_skipSpaces) := goodIn_app (goodIn_of _ (by decide +kernel)) ggX6_parse_X6_skipSpaces
set_option maxRecDepth 20000 in
theorem ggX6_parse_X6_readStep : GoodIn wsX6_parse wsX6_readStep := goodIn_r _ [31, 3, 1, 4, 2, 32, 33, 34, 16, 35, 36, 37, 38, 39, 40, 41, 42, 43, 18, 19, 20, 21, 22, 23, 24, 25, 26, 27, 44, 45, 46, 47, 48, 49, 50, 51, 52, 53, 54, 8, 55, 56, 10, 57, 58, 59, 60, 61, 62, 63, 64, 65, 66, 67, 68, 71, 72, 73, 74, 69, 70, 75, 76, 77] (by decide +kernel) (by decide +kernel)
set_option maxRecDepth 20000 in
theorem gX6_parse_X6_readStep : GoodIn wsX6_parse (wsV RX6 43 RX6 yX6_readStep wsX6_readStep) := goodIn_app (goodIn_of _ (by decide +kernel)) ggX6_parse_X6_readStep
theorem dX6_parse_0 : decode cX6_parse 0 = .ok (.aload_n 0, 1) := by decide +kernel
theorem dX6_parse_1 : decode cX6_parse 1 = .ok (.iconst 0, 1) := by decide +kernel
theorem dX6_parse_2 : decode cX6_parse 2 = .ok (.putfield 27, 3) := by decide +kernel
theorem dX6_parse_5 : decode cX6_parse 5 = .ok (.aload_n 0, 1) := by decide +kernel
theorem dX6_parse_6 : decode cX6_parse 6 = .ok (.iconst (-1), 1) := by decide +kernel
theorem dX6_parse_7 : decode cX6_parse 7 = .ok (.putfield 31, 3) := by decide +kernel
theorem dX6_parse_10 : decode cX6_parse 10 = .ok (.aload_n 0, 1) := by decide +kernel
theorem dX6_parse_11 : decode cX6_parse 11 = .ok (.getfield 23, 3) := by decide +kernel
theorem dX6_parse_14 : decode cX6_parse 14 = .ok (.invokevirtual 34, 3) := by decide +kernel
theorem dX6_parse_17 : decode cX6_parse 17 = .ok (.aload_n 0, 1) := by decide +kernel
theorem dX6_parse_18 : decode cX6_parse 18 = .ok (.invokevirtual 37, 3) := by decide +kernel
theorem dX6_parse_21 : decode cX6_parse 21 = .ok (.iconst 0, 1) := by decide +kernel
theorem dX6_parse_22 : decode cX6_parse 22 = .ok (.istore_n 1, 1) := by decide +kernel
theorem dX6_parse_23 : decode cX6_parse 23 = .ok (.iload_n 1, 1) := by decide +kernel
theorem dX6_parse_24 : decode cX6_parse 24 = .ok (.bipush 12, 2) := by decide +kernel
theorem dX6_parse_26 : decode cX6_parse 26 = .ok (.if_icmp .gt 42, 3) := by decide +kernel
theorem dX6_parse_29 : decode cX6_parse 29 = .ok (.aload_n 0, 1) := by decide +kernel
theorem dX6_parse_30 : decode cX6_parse 30 = .ok (.getfield 31, 3) := by decide +kernel
theorem dX6_parse_33 : decode cX6_parse 33 = .ok (.iconst (-1), 1) := by decide +kernel
theorem dX6_parse_34 : decode cX6_parse 34 = .ok (.if_icmp .ne 34, 3) := by decide +kernel
theorem dX6_parse_37 : decode cX6_parse 37 = .ok (.aload_n 0, 1) := by decide +kernel
theorem dX6_parse_38 : decode cX6_parse 38 = .ok (.getfield 27, 3) := by decide +kernel
theorem dX6_parse_41 : decode cX6_parse 41 = .ok (.aload_n 0, 1) := by decide +kernel
theorem dX6_parse_42 : decode cX6_parse 42 = .ok (.getfield 14, 3) := by decide +kernel
theorem dX6_parse_45 : decode cX6_parse 45 = .ok (.getfield 40, 3) := by decide +kernel
theorem dX6_parse_48 : decode cX6_parse 48 = .ok (.if_icmp .lt 6, 3) := by decide +kernel
theorem dX6_parse_51 : decode cX6_parse 51 = .ok (.goto 17, 3) := by decide +kernel
theorem dX6_parse_54 : decode cX6_parse 54 = .ok (.aload_n 0, 1) := by decide +kernel
theorem dX6_parse_55 : decode cX6_parse 55 = .ok (.invokevirtual 43, 3) := by decide +kernel
theorem dX6_parse_58 : decode cX6_parse 58 = .ok (.aload_n 0, 1) := by decide +kernel
theorem dX6_parse_59 : decode cX6_parse 59 = .ok (.invokevirtual 37, 3) := by decide +kernel
theorem dX6_parse_62 : decode cX6_parse 62 = .ok (.iinc 1 1, 3) := by decide +kernel
theorem dX6_parse_65 : decode cX6_parse 65 = .ok (.goto (-42), 3) := by decide +kernel
theorem dX6_parse_68 : decode cX6_parse 68 = .ok (.aload_n 0, 1) := by decide +kernel
theorem dX6_parse_69 : decode cX6_parse 69 = .ok (.getfield 31, 3) := by decide +kernel
theorem dX6_parse_72 : decode cX6_parse 72 = .ok (.ireturn, 1) := by decide +kernel
set_option maxRecDepth 20000 in
theorem ggX6_skipSpaces_X0_byteAt : GoodIn wsX6_skipSpaces wsX0_byteAt := goodIn_r _ [7, 8, 9, 10, 11, 12, 17, 18] (by decide +kernel) (by decide +kernel)
set_option maxRecDepth 20000 in
theorem gX6_skipSpaces_X0_byteAt : GoodIn wsX6_skipSpaces (wsV RX6 46 RX0 yX0_byteAt wsX0_byteAt) := goodIn_app (goodIn_of _ (by decide +kernel)) ggX6_skipSpaces_X0_byteAt
theorem dX6_skipSpaces_0 : decode cX6_skipSpaces 0 = .ok (.aload_n 0, 1) := by decide +kernel
theorem dX6_skipSpaces_1 : decode cX6_skipSpaces 1 = .ok (.getfield 27, 3) := by decide +kernel
theorem dX6_skipSpaces_4 : decode cX6_skipSpaces 4 = .ok (.aload_n 0, 1) := by decide +kernel
theorem dX6_skipSpaces_5 : decode cX6_skipSpaces 5 = .ok (.getfield 14, 3) := by decide +kernel
theorem dX6_skipSpaces_8 : decode cX6_skipSpaces 8 = .ok (.getfield 40, 3) := by decide +kernel
theorem dX6_skipSpaces_11 : decode cX6_skipSpaces 11 = .ok (.if_icmp .ge 32, 3) := by decide +kernel
theorem dX6_skipSpaces_14 : decode cX6_skipSpaces 14 = .ok (.aload_n 0, 1) := by decide +kernel
theorem dX6_skipSpaces_15 : decode cX6_skipSpaces 15 = .ok (.getfield 14, 3) := by decide +kernel
theorem dX6_skipSpaces_18 : decode cX6_skipSpaces 18 = .ok (.aload_n 0, 1) := by decide +kernel
theorem dX6_skipSpaces_19 : decode cX6_skipSpaces 19 = .ok (.getfield 27, 3) := by decide +kernel
theorem dX6_skipSpaces_22 : decode cX6_skipSpaces 22 = .ok (.invokevirtual 46, 3) := by decide +kernel
theorem dX6_skipSpaces_25 : decode cX6_skipSpaces 25 = .ok (.bipush 32, 2) := by decide +kernel
theorem dX6_skipSpaces_27 : decode cX6_skipSpaces 27 = .ok (.if_icmp .ne 16, 3) := by decide +kernel
theorem dX6_skipSpaces_30 : decode cX6_skipSpaces 30 = .ok (.aload_n 0, 1) := by decide +kernel
theorem dX6_skipSpaces_31 : decode cX6_skipSpaces 31 = .ok (.dup, 1) := by decide +kernel
theorem dX6_skipSpaces_32 : decode cX6_skipSpaces 32 = .ok (.getfield 27, 3) := by decide +kernel
theorem dX6_skipSpaces_35 : decode cX6_skipSpaces 35 = .ok (.iconst 1, 1) := by decide +kernel
theorem dX6_skipSpaces_36 : decode cX6_skipSpaces 36 = .ok (.iadd, 1) := by decide +kernel
theorem dX6_skipSpaces_37 : decode cX6_skipSpaces 37 = .ok (.putfield 27, 3) := by decide +kernel
theorem dX6_skipSpaces_40 : decode cX6_skipSpaces 40 = .ok (.goto (-40), 3) := by decide +kernel
theorem dX6_skipSpaces_43 : decode cX6_skipSpaces 43 = .ok (.return_, 1) := by decide +kernel
set_option maxRecDepth 20000 in
theorem ggX6_readStep_X6_fail : GoodIn wsX6_readStep wsX6_fail := goodIn_r _ [9, 4, 51, 52, 53, 54] (by decide +kernel) (by decide +kernel)
set_option maxRecDepth 20000 in
theorem gX6_readStep_X6_fail : GoodIn wsX6_readStep (wsV RX6 53 RX6 yX6_fail wsX6_fail) := goodIn_app (goodIn_of _ (by decide +kernel)) ggX6_readStep_X6_fail
set_option maxRecDepth 20000 in
theorem ggX6_readStep_X6_readNumber : GoodIn wsX6_readStep wsX6_readNumber := goodIn_r _ [13, 2, 14, 15, 16, 8, 17, 3, 18, 19, 20, 21, 22, 23, 24, 25, 26, 27, 5, 6, 7, 9, 4, 28, 29, 30, 31, 51, 52, 53, 54, 59, 60] (by decide +kernel) (by decide +kernel)
set_option maxRecDepth 20000 in
theorem gX6_readStep_X6_readNumber : GoodIn wsX6_readStep (wsV RX6 56 RX6 yX6_readNumber wsX6_readNumber) := goodIn_app (goodIn_of _ (by decide +kernel)) ggX6_readStep_X6_readNumber
set_option maxRecDepth 20000 in
theorem ggX6_readStep_X0_byteAt : GoodIn wsX6_readStep wsX0_byteAt := goodIn_r _ [22, 23, 24, 25, 26, 27, 59, 60] (by decide +kernel) (by decide +kernel)
set_option maxRecDepth 20000 in
theorem gX6_readStep_X0_byteAt : GoodIn wsX6_readStep (wsV RX6 46 RX0 yX0_byteAt wsX0_byteAt) := goodIn_app (goodIn_of _ (by decide +kernel)) ggX6_readStep_X0_byteAt
set_option maxRecDepth 20000 in
theorem ggX6_readStep_X6_readSign : GoodIn wsX6_readStep wsX6_readSign := goodIn_r _ [35, 3, 2, 18, 19, 20, 21, 22, 23, 24, 25, 26, 27, 5, 6, 7, 8, 9, 4, 51, 52, 53, 54, 59, 60] (by decide +kernel) (by decide +kernel)
set_option maxRecDepth 20000 in
theorem gX6_readStep_X6_readSign : GoodIn wsX6_readStep (wsV RX6 60 RX6 yX6_readSign wsX6_readSign) := goodIn_app (goodIn_of _ (by decide +kernel)) ggX6_readStep_X6_readSign
set_option maxRecDepth 20000 in
theorem ggX6_readStep_X5_add : GoodIn wsX6_readStep wsX5_add := goodIn_r _ [40, 41, 42, 43, 44, 45, 46, 47, 48, 49, 50, 55, 56, 57, 58, 61, 62, 63] (by decide +kernel) (by decide +kernel)
set_option maxRecDepth 20000 in
theorem gX6_readStep_X5_add : GoodIn wsX6_readStep (wsV RX6 64 RX5 yX5_add wsX5_add) := goodIn_app (goodIn_of _ (by decide +kernel)) ggX6_readStep_X5_add
theorem dX6_readStep_0 : decode cX6_readStep 0 = .ok (.aload_n 0, 1) := by decide +kernel
theorem dX6_readStep_1 : decode cX6_readStep 1 = .ok (.getfield 23, 3) := by decide +kernel
theorem dX6_readStep_4 : decode cX6_readStep 4 = .ok (.getfield 50, 3) := by decide +kernel
theorem dX6_readStep_7 : decode cX6_readStep 7 = .ok (.bipush 12, 2) := by decide +kernel
theorem dX6_readStep_9 : decode cX6_readStep 9 = .ok (.if_icmp .lt 12, 3) := by decide +kernel
theorem dX6_readStep_12 : decode cX6_readStep 12 = .ok (.aload_n 0, 1) := by decide +kernel
theorem dX6_readStep_13 : decode cX6_readStep 13 = .ok (.aload_n 0, 1) := by decide +kernel
theorem dX6_readStep_14 : decode cX6_readStep 14 = .ok (.getfield 27, 3) := by decide +kernel
theorem dX6_readStep_17 : decode cX6_readStep 17 = .ok (.invokevirtual 53, 3) := by decide +kernel
theorem dX6_readStep_20 : decode cX6_readStep 20 = .ok (.return_, 1) := by decide +kernel
theorem dX6_readStep_21 : decode cX6_readStep 21 = .ok (.aload_n 0, 1) := by decide +kernel
theorem dX6_readStep_22 : decode cX6_readStep 22 = .ok (.iconst 0, 1) := by decide +kernel
theorem dX6_readStep_23 : decode cX6_readStep 23 = .ok (.bipush 31, 2) := by decide +kernel
theorem dX6_readStep_25 : decode cX6_readStep 25 = .ok (.invokevirtual 56, 3) := by decide +kernel
theorem dX6_readStep_28 : decode cX6_readStep 28 = .ok (.istore_n 1, 1) := by decide +kernel
theorem dX6_readStep_29 : decode cX6_readStep 29 = .ok (.iload_n 1, 1) := by decide +kernel
theorem dX6_readStep_30 : decode cX6_readStep 30 = .ok (.istore_n 2, 1) := by decide +kernel
theorem dX6_readStep_31 : decode cX6_readStep 31 = .ok (.aload_n 0, 1) := by decide +kernel
theorem dX6_readStep_32 : decode cX6_readStep 32 = .ok (.getfield 14, 3) := by decide +kernel
theorem dX6_readStep_35 : decode cX6_readStep 35 = .ok (.aload_n 0, 1) := by decide +kernel
theorem dX6_readStep_36 : decode cX6_readStep 36 = .ok (.getfield 27, 3) := by decide +kernel
theorem dX6_readStep_39 : decode cX6_readStep 39 = .ok (.invokevirtual 46, 3) := by decide +kernel
theorem dX6_readStep_42 : decode cX6_readStep 42 = .ok (.bipush 45, 2) := by decide +kernel
theorem dX6_readStep_44 : decode cX6_readStep 44 = .ok (.if_icmp .ne 21, 3) := by decide +kernel
theorem dX6_readStep_47 : decode cX6_readStep 47 = .ok (.aload_n 0, 1) := by decide +kernel
theorem dX6_readStep_48 : decode cX6_readStep 48 = .ok (.dup, 1) := by decide +kernel
theorem dX6_readStep_49 : decode cX6_readStep 49 = .ok (.getfield 27, 3) := by decide +kernel
theorem dX6_readStep_52 : decode cX6_readStep 52 = .ok (.iconst 1, 1) := by decide +kernel
theorem dX6_readStep_53 : decode cX6_readStep 53 = .ok (.iadd, 1) := by decide +kernel
theorem dX6_readStep_54 : decode cX6_readStep 54 = .ok (.putfield 27, 3) := by decide +kernel
theorem dX6_readStep_57 : decode cX6_readStep 57 = .ok (.aload_n 0, 1) := by decide +kernel
theorem dX6_readStep_58 : decode cX6_readStep 58 = .ok (.iload_n 1, 1) := by decide +kernel
theorem dX6_readStep_59 : decode cX6_readStep 59 = .ok (.bipush 31, 2) := by decide +kernel
theorem dX6_readStep_61 : decode cX6_readStep 61 = .ok (.invokevirtual 56, 3) := by decide +kernel
theorem dX6_readStep_64 : decode cX6_readStep 64 = .ok (.istore_n 2, 1) := by decide +kernel
theorem dX6_readStep_65 : decode cX6_readStep 65 = .ok (.aload_n 0, 1) := by decide +kernel
theorem dX6_readStep_66 : decode cX6_readStep 66 = .ok (.bipush 58, 2) := by decide +kernel
theorem dX6_readStep_68 : decode cX6_readStep 68 = .ok (.invokevirtual 60, 3) := by decide +kernel
theorem dX6_readStep_71 : decode cX6_readStep 71 = .ok (.aload_n 0, 1) := by decide +kernel
theorem dX6_readStep_72 : decode cX6_readStep 72 = .ok (.iconst 1, 1) := by decide +kernel
theorem dX6_readStep_73 : decode cX6_readStep 73 = .ok (.bipush 20, 2) := by decide +kernel
theorem dX6_readStep_75 : decode cX6_readStep 75 = .ok (.invokevirtual 56, 3) := by decide +kernel
theorem dX6_readStep_78 : decode cX6_readStep 78 = .ok (.istore_n 3, 1) := by decide +kernel
theorem dX6_readStep_79 : decode cX6_readStep 79 = .ok (.aload_n 0, 1) := by decide +kernel
theorem dX6_readStep_80 : decode cX6_readStep 80 = .ok (.bipush 59, 2) := by decide +kernel
theorem dX6_readStep_82 : decode cX6_readStep 82 = .ok (.invokevirtual 60, 3) := by decide +kernel
theorem dX6_readStep_85 : decode cX6_readStep 85 = .ok (.aload_n 0, 1) := by decide +kernel
theorem dX6_readStep_86 : decode cX6_readStep 86 = .ok (.getfield 31, 3) := by decide +kernel
theorem dX6_readStep_89 : decode cX6_readStep 89 = .ok (.iconst (-1), 1) := by decide +kernel
theorem dX6_readStep_90 : decode cX6_readStep 90 = .ok (.if_icmp .ne 13, 3) := by decide +kernel
theorem dX6_readStep_93 : decode cX6_readStep 93 = .ok (.aload_n 0, 1) := by decide +kernel
theorem dX6_readStep_94 : decode cX6_readStep 94 = .ok (.getfield 23, 3) := by decide +kernel
theorem dX6_readStep_97 : decode cX6_readStep 97 = .ok (.iload_n 1, 1) := by decide +kernel
theorem dX6_readStep_98 : decode cX6_readStep 98 = .ok (.iload_n 2, 1) := by decide +kernel
theorem dX6_readStep_99 : decode cX6_readStep 99 = .ok (.iload_n 3, 1) := by decide +kernel
theorem dX6_readStep_100 : decode cX6_readStep 100 = .ok (.invokevirtual 64, 3) := by decide +kernel
theorem dX6_readStep_103 : decode cX6_readStep 103 = .ok (.return_, 1) := by decide +kernel
set_option maxRecDepth 20000 in
theorem ggX6_readNumber_X6_isDigit : GoodIn wsX6_readNumber wsX6_isDigit := goodIn_r _ [6, 7, 8, 9, 10, 11, 12, 13, 14, 15, 16, 17, 27, 28, 29, 30, 31, 32] (by decide +kernel) (by decide +kernel)
set_option maxRecDepth 20000 in
theorem gX6_readNumber_X6_isDigit : GoodIn wsX6_readNumber (wsV RX6 68 RX6 yX6_isDigit wsX6_isDigit) := goodIn_app (goodIn_of _ (by decide +kernel)) ggX6_readNumber_X6_isDigit
set_option maxRecDepth 20000 in
theorem ggX6_readNumber_X6_fail : GoodIn wsX6_readNumber wsX6_fail := goodIn_r _ [21, 22, 27, 28, 29, 30] (by decide +kernel) (by decide +kernel)
set_option maxRecDepth 20000 in
theorem gX6_readNumber_X6_fail : GoodIn wsX6_readNumber (wsV RX6 53 RX6 yX6_fail wsX6_fail) := goodIn_app (goodIn_of _ (by decide +kernel)) ggX6_readNumber_X6_fail
set_option maxRecDepth 20000 in
theorem ggX6_readNumber_X6_readDigit : GoodIn wsX6_readNumber wsX6_readDigit := goodIn_r _ [26, 7, 1, 8, 9, 10, 11, 12, 13, 14, 15, 16, 17, 27, 28, 29, 30, 31, 32] (by decide +kernel) (by decide +kernel)
set_option maxRecDepth 20000 in
theorem gX6_readNumber_X6_readDigit : GoodIn wsX6_readNumber (wsV RX6 72 RX6 yX6_readDigit wsX6_readDigit) := goodIn_app (goodIn_of _ (by decide +kernel)) ggX6_readNumber_X6_readDigit
theorem dX6_readNumber_0 : decode cX6_readNumber 0 = .ok (.aload_n 0, 1) := by decide +kernel
theorem dX6_readNumber_1 : decode cX6_readNumber 1 = .ok (.getfield 27, 3) := by decide +kernel
theorem dX6_readNumber_4 : decode cX6_readNumber 4 = .ok (.istore_n 3, 1) := by decide +kernel
theorem dX6_readNumber_5 : decode cX6_readNumber 5 = .ok (.aload_n 0, 1) := by decide +kernel
theorem dX6_readNumber_6 : decode cX6_readNumber 6 = .ok (.iload_n 3, 1) := by decide +kernel
theorem dX6_readNumber_7 : decode cX6_readNumber 7 = .ok (.invokevirtual 68, 3) := by decide +kernel
theorem dX6_readNumber_10 : decode cX6_readNumber 10 = .ok (.ifCond .ne 10, 3) := by decide +kernel
theorem dX6_readNumber_13 : decode cX6_readNumber 13 = .ok (.aload_n 0, 1) := by decide +kernel
theorem dX6_readNumber_14 : decode cX6_readNumber 14 = .ok (.iload_n 3, 1) := by decide +kernel
theorem dX6_readNumber_15 : decode cX6_readNumber 15 = .ok (.invokevirtual 53, 3) := by decide +kernel
theorem dX6_readNumber_18 : decode cX6_readNumber 18 = .ok (.iconst (-1), 1) := by decide +kernel
theorem dX6_readNumber_19 : decode cX6_readNumber 19 = .ok (.ireturn, 1) := by decide +kernel
theorem dX6_readNumber_20 : decode cX6_readNumber 20 = .ok (.aload_n 0, 1) := by decide +kernel
theorem dX6_readNumber_21 : decode cX6_readNumber 21 = .ok (.invokevirtual 72, 3) := by decide +kernel
theorem dX6_readNumber_24 : decode cX6_readNumber 24 = .ok (.istore 4, 2) := by decide +kernel
theorem dX6_readNumber_26 : decode cX6_readNumber 26 = .ok (.aload_n 0, 1) := by decide +kernel
theorem dX6_readNumber_27 : decode cX6_readNumber 27 = .ok (.aload_n 0, 1) := by decide +kernel
theorem dX6_readNumber_28 : decode cX6_readNumber 28 = .ok (.getfield 27, 3) := by decide +kernel
theorem dX6_readNumber_31 : decode cX6_readNumber 31 = .ok (.invokevirtual 68, 3) := by decide +kernel
theorem dX6_readNumber_34 : decode cX6_readNumber 34 = .ok (.ifCond .eq 15, 3) := by decide +kernel
theorem dX6_readNumber_37 : decode cX6_readNumber 37 = .ok (.bipush 10, 2) := by decide +kernel
theorem dX6_readNumber_39 : decode cX6_readNumber 39 = .ok (.iload 4, 2) := by decide +kernel
theorem dX6_readNumber_41 : decode cX6_readNumber 41 = .ok (.imul, 1) := by decide +kernel
theorem dX6_readNumber_42 : decode cX6_readNumber 42 = .ok (.aload_n 0, 1) := by decide +kernel
theorem dX6_readNumber_43 : decode cX6_readNumber 43 = .ok (.invokevirtual 72, 3) := by decide +kernel
theorem dX6_readNumber_46 : decode cX6_readNumber 46 = .ok (.iadd, 1) := by decide +kernel
theorem dX6_readNumber_47 : decode cX6_readNumber 47 = .ok (.istore 4, 2) := by decide +kernel
theorem dX6_readNumber_49 : decode cX6_readNumber 49 = .ok (.aload_n 0, 1) := by decide +kernel
theorem dX6_readNumber_50 : decode cX6_readNumber 50 = .ok (.aload_n 0, 1) := by decide +kernel
theorem dX6_readNumber_51 : decode cX6_readNumber 51 = .ok (.getfield 27, 3) := by decide +kernel
theorem dX6_readNumber_54 : decode cX6_readNumber 54 = .ok (.invokevirtual 68, 3) := by decide +kernel
theorem dX6_readNumber_57 : decode cX6_readNumber 57 = .ok (.ifCond .eq 11, 3) := by decide +kernel
theorem dX6_readNumber_60 : decode cX6_readNumber 60 = .ok (.aload_n 0, 1) := by decide +kernel
theorem dX6_readNumber_61 : decode cX6_readNumber 61 = .ok (.aload_n 0, 1) := by decide +kernel
theorem dX6_readNumber_62 : decode cX6_readNumber 62 = .ok (.getfield 27, 3) := by decide +kernel
theorem dX6_readNumber_65 : decode cX6_readNumber 65 = .ok (.invokevirtual 53, 3) := by decide +kernel
theorem dX6_readNumber_68 : decode cX6_readNumber 68 = .ok (.iload 4, 2) := by decide +kernel
theorem dX6_readNumber_70 : decode cX6_readNumber 70 = .ok (.iload_n 1, 1) := by decide +kernel
theorem dX6_readNumber_71 : decode cX6_readNumber 71 = .ok (.if_icmp .lt 9, 3) := by decide +kernel
theorem dX6_readNumber_74 : decode cX6_readNumber 74 = .ok (.iload 4, 2) := by decide +kernel
theorem dX6_readNumber_76 : decode cX6_readNumber 76 = .ok (.iload_n 2, 1) := by decide +kernel
theorem dX6_readNumber_77 : decode cX6_readNumber 77 = .ok (.if_icmp .le 8, 3) := by decide +kernel
theorem dX6_readNumber_80 : decode cX6_readNumber 80 = .ok (.aload_n 0, 1) := by decide +kernel
theorem dX6_readNumber_81 : decode cX6_readNumber 81 = .ok (.iload_n 3, 1) := by decide +kernel
theorem dX6_readNumber_82 : decode cX6_readNumber 82 = .ok (.invokevirtual 53, 3) := by decide +kernel
theorem dX6_readNumber_85 : decode cX6_readNumber 85 = .ok (.iload 4, 2) := by decide +kernel
theorem dX6_readNumber_87 : decode cX6_readNumber 87 = .ok (.ireturn, 1) := by decide +kernel
set_option maxRecDepth 20000 in
theorem ggX6_readDigit_X0_byteAt : GoodIn wsX6_readDigit wsX0_byteAt := goodIn_r _ [7, 8, 9, 10, 11, 12, 17, 18] (by decide +kernel) (by decide +kernel)
set_option maxRecDepth 20000 in
theorem gX6_readDigit_X0_byteAt : GoodIn wsX6_readDigit (wsV RX6 46 RX0 yX0_byteAt wsX0_byteAt) := goodIn_app (goodIn_of _ (by decide +kernel)) ggX6_readDigit_X0_byteAt
theorem dX6_readDigit_0 : decode cX6_readDigit 0 = .ok (.aload_n 0, 1) := by decide +kernel
theorem dX6_readDigit_1 : decode cX6_readDigit 1 = .ok (.getfield 14, 3) := by decide +kernel
theorem dX6_readDigit_4 : decode cX6_readDigit 4 = .ok (.aload_n 0, 1) := by decide +kernel
theorem dX6_readDigit_5 : decode cX6_readDigit 5 = .ok (.getfield 27, 3) := by decide +kernel
theorem dX6_readDigit_8 : decode cX6_readDigit 8 = .ok (.invokevirtual 46, 3) := by decide +kernel
theorem dX6_readDigit_11 : decode cX6_readDigit 11 = .ok (.bipush 48, 2) := by decide +kernel
theorem dX6_readDigit_13 : decode cX6_readDigit 13 = .ok (.isub, 1) := by decide +kernel
theorem dX6_readDigit_14 : decode cX6_readDigit 14 = .ok (.istore_n 1, 1) := by decide +kernel
theorem dX6_readDigit_15 : decode cX6_readDigit 15 = .ok (.aload_n 0, 1) := by decide +kernel
theorem dX6_readDigit_16 : decode cX6_readDigit 16 = .ok (.dup, 1) := by decide +kernel
theorem dX6_readDigit_17 : decode cX6_readDigit 17 = .ok (.getfield 27, 3) := by decide +kernel
theorem dX6_readDigit_20 : decode cX6_readDigit 20 = .ok (.iconst 1, 1) := by decide +kernel
theorem dX6_readDigit_21 : decode cX6_readDigit 21 = .ok (.iadd, 1) := by decide +kernel
theorem dX6_readDigit_22 : decode cX6_readDigit 22 = .ok (.putfield 27, 3) := by decide +kernel
theorem dX6_readDigit_25 : decode cX6_readDigit 25 = .ok (.iload_n 1, 1) := by decide +kernel
theorem dX6_readDigit_26 : decode cX6_readDigit 26 = .ok (.ireturn, 1) := by decide +kernel
set_option maxRecDepth 20000 in
theorem ggX6_isDigit_X0_byteAt : GoodIn wsX6_isDigit wsX0_byteAt := goodIn_r _ [6, 7, 8, 9, 10, 11, 16, 17] (by decide +kernel) (by decide +kernel)
set_option maxRecDepth 20000 in
theorem gX6_isDigit_X0_byteAt : GoodIn wsX6_isDigit (wsV RX6 46 RX0 yX0_byteAt wsX0_byteAt) := goodIn_app (goodIn_of _ (by decide +kernel)) ggX6_isDigit_X0_byteAt
theorem dX6_isDigit_0 : decode cX6_isDigit 0 = .ok (.aload_n 0, 1) := by decide +kernel
theorem dX6_isDigit_1 : decode cX6_isDigit 1 = .ok (.getfield 14, 3) := by decide +kernel
theorem dX6_isDigit_4 : decode cX6_isDigit 4 = .ok (.iload_n 1, 1) := by decide +kernel
theorem dX6_isDigit_5 : decode cX6_isDigit 5 = .ok (.invokevirtual 46, 3) := by decide +kernel
theorem dX6_isDigit_8 : decode cX6_isDigit 8 = .ok (.istore_n 2, 1) := by decide +kernel
theorem dX6_isDigit_9 : decode cX6_isDigit 9 = .ok (.iload_n 2, 1) := by decide +kernel
theorem dX6_isDigit_10 : decode cX6_isDigit 10 = .ok (.bipush 48, 2) := by decide +kernel
theorem dX6_isDigit_12 : decode cX6_isDigit 12 = .ok (.if_icmp .lt 13, 3) := by decide +kernel
theorem dX6_isDigit_15 : decode cX6_isDigit 15 = .ok (.iload_n 2, 1) := by decide +kernel
theorem dX6_isDigit_16 : decode cX6_isDigit 16 = .ok (.bipush 57, 2) := by decide +kernel
theorem dX6_isDigit_18 : decode cX6_isDigit 18 = .ok (.if_icmp .gt 7, 3) := by decide +kernel
theorem dX6_isDigit_21 : decode cX6_isDigit 21 = .ok (.iconst 1, 1) := by decide +kernel
theorem dX6_isDigit_22 : decode cX6_isDigit 22 = .ok (.goto 4, 3) := by decide +kernel
theorem dX6_isDigit_25 : decode cX6_isDigit 25 = .ok (.iconst 0, 1) := by decide +kernel
theorem dX6_isDigit_26 : decode cX6_isDigit 26 = .ok (.ireturn, 1) := by decide +kernel
set_option maxRecDepth 20000 in
theorem ggX6_readSign_X0_byteAt : GoodIn wsX6_readSign wsX0_byteAt := goodIn_r _ [7, 8, 9, 10, 11, 12, 23, 24] (by decide +kernel) (by decide +kernel)
set_option maxRecDepth 20000 in
theorem gX6_readSign_X0_byteAt : GoodIn wsX6_readSign (wsV RX6 46 RX0 yX0_byteAt wsX0_byteAt) := goodIn_app (goodIn_of _ (by decide +kernel)) ggX6_readSign_X0_byteAt
set_option maxRecDepth 20000 in
theorem ggX6_readSign_X6_fail : GoodIn wsX6_readSign wsX6_fail := goodIn_r _ [17, 18, 19, 20, 21, 22] (by decide +kernel) (by decide +kernel)
set_option maxRecDepth 20000 in
theorem gX6_readSign_X6_fail : GoodIn wsX6_readSign (wsV RX6 53 RX6 yX6_fail wsX6_fail) := goodIn_app (goodIn_of _ (by decide +kernel)) ggX6_readSign_X6_fail
theorem dX6_readSign_0 : decode cX6_readSign 0 = .ok (.aload_n 0, 1) := by decide +kernel
theorem dX6_readSign_1 : decode cX6_readSign 1 = .ok (.getfield 14, 3) := by decide +kernel
theorem dX6_readSign_4 : decode cX6_readSign 4 = .ok (.aload_n 0, 1) := by decide +kernel
theorem dX6_readSign_5 : decode cX6_readSign 5 = .ok (.getfield 27, 3) := by decide +kernel
theorem dX6_readSign_8 : decode cX6_readSign 8 = .ok (.invokevirtual 46, 3) := by decide +kernel
theorem dX6_readSign_11 : decode cX6_readSign 11 = .ok (.iload_n 1, 1) := by decide +kernel
theorem dX6_readSign_12 : decode cX6_readSign 12 = .ok (.if_icmp .ne 16, 3) := by decide +kernel
theorem dX6_readSign_15 : decode cX6_readSign 15 = .ok (.aload_n 0, 1) := by decide +kernel
theorem dX6_readSign_16 : decode cX6_readSign 16 = .ok (.dup, 1) := by decide +kernel
theorem dX6_readSign_17 : decode cX6_readSign 17 = .ok (.getfield 27, 3) := by decide +kernel
theorem dX6_readSign_20 : decode cX6_readSign 20 = .ok (.iconst 1, 1) := by decide +kernel
theorem dX6_readSign_21 : decode cX6_readSign 21 = .ok (.iadd, 1) := by decide +kernel
theorem dX6_readSign_22 : decode cX6_readSign 22 = .ok (.putfield 27, 3) := by decide +kernel
theorem dX6_readSign_25 : decode cX6_readSign 25 = .ok (.goto 11, 3) := by decide +kernel
theorem dX6_readSign_28 : decode cX6_readSign 28 = .ok (.aload_n 0, 1) := by decide +kernel
theorem dX6_readSign_29 : decode cX6_readSign 29 = .ok (.aload_n 0, 1) := by decide +kernel
theorem dX6_readSign_30 : decode cX6_readSign 30 = .ok (.getfield 27, 3) := by decide +kernel
theorem dX6_readSign_33 : decode cX6_readSign 33 = .ok (.invokevirtual 53, 3) := by decide +kernel
theorem dX6_readSign_36 : decode cX6_readSign 36 = .ok (.return_, 1) := by decide +kernel
theorem dX6_fail_0 : decode cX6_fail 0 = .ok (.aload_n 0, 1) := by decide +kernel
theorem dX6_fail_1 : decode cX6_fail 1 = .ok (.getfield 31, 3) := by decide +kernel
theorem dX6_fail_4 : decode cX6_fail 4 = .ok (.iconst (-1), 1) := by decide +kernel
theorem dX6_fail_5 : decode cX6_fail 5 = .ok (.if_icmp .ne 8, 3) := by decide +kernel
theorem dX6_fail_8 : decode cX6_fail 8 = .ok (.aload_n 0, 1) := by decide +kernel
theorem dX6_fail_9 : decode cX6_fail 9 = .ok (.iload_n 1, 1) := by decide +kernel
theorem dX6_fail_10 : decode cX6_fail 10 = .ok (.putfield 31, 3) := by decide +kernel
theorem dX6_fail_13 : decode cX6_fail 13 = .ok (.return_, 1) := by decide +kernel
set_option maxRecDepth 20000 in
theorem ggX7_init_X9_init : GoodIn wsX7_init wsX9_init := goodIn_r _ [10, 11, 2, 3, 12, 13, 14, 15, 16, 17, 18, 19, 20, 21, 22] (by decide +kernel) (by decide +kernel)
set_option maxRecDepth 20000 in
theorem gX7_init_X9_init : GoodIn wsX7_init (wsX9_init) := ggX7_init_X9_init
theorem dX7_init_0 : decode cX7_init 0 = .ok (.aload_n 0, 1) := by decide +kernel
theorem dX7_init_1 : decode cX7_init 1 = .ok (.invokespecial 3, 3) := by decide +kernel
theorem dX7_init_4 : decode cX7_init 4 = .ok (.aload_n 0, 1) := by decide +kernel
theorem dX7_init_5 : decode cX7_init 5 = .ok (.new 9, 3) := by decide +kernel
theorem dX7_init_8 : decode cX7_init 8 = .ok (.dup, 1) := by decide +kernel
theorem dX7_init_9 : decode cX7_init 9 = .ok (.bipush 10, 2) := by decide +kernel
theorem dX7_init_11 : decode cX7_init 11 = .ok (.bipush 6, 2) := by decide +kernel
theorem dX7_init_13 : decode cX7_init 13 = .ok (.invokespecial 11, 3) := by decide +kernel
theorem dX7_init_16 : decode cX7_init 16 = .ok (.putfield 14, 3) := by decide +kernel
theorem dX7_init_19 : decode cX7_init 19 = .ok (.return_, 1) := by decide +kernel
set_option maxRecDepth 20000 in
theorem ggX7_add_X9_set : GoodIn wsX7_add wsX9_set := goodIn_r _ [7, 8, 9, 10, 13, 14, 15] (by decide +kernel) (by decide +kernel)
set_option maxRecDepth 20000 in
theorem gX7_add_X9_set : GoodIn wsX7_add (wsV RX7 24 RX9 yX9_set wsX9_set) := goodIn_app (goodIn_of _ (by decide +kernel)) ggX7_add_X9_set
theorem dX7_add_0 : decode cX7_add 0 = .ok (.aload_n 0, 1) := by decide +kernel
theorem dX7_add_1 : decode cX7_add 1 = .ok (.getfield 20, 3) := by decide +kernel
theorem dX7_add_4 : decode cX7_add 4 = .ok (.istore_n 2, 1) := by decide +kernel
theorem dX7_add_5 : decode cX7_add 5 = .ok (.aload_n 0, 1) := by decide +kernel
theorem dX7_add_6 : decode cX7_add 6 = .ok (.getfield 14, 3) := by decide +kernel
theorem dX7_add_9 : decode cX7_add 9 = .ok (.iload_n 2, 1) := by decide +kernel
theorem dX7_add_10 : decode cX7_add 10 = .ok (.iconst 0, 1) := by decide +kernel
theorem dX7_add_11 : decode cX7_add 11 = .ok (.iload_n 1, 1) := by decide +kernel
theorem dX7_add_12 : decode cX7_add 12 = .ok (.invokevirtual 24, 3) := by decide +kernel
theorem dX7_add_15 : decode cX7_add 15 = .ok (.aload_n 0, 1) := by decide +kernel
theorem dX7_add_16 : decode cX7_add 16 = .ok (.dup, 1) := by decide +kernel
theorem dX7_add_17 : decode cX7_add 17 = .ok (.getfield 20, 3) := by decide +kernel
theorem dX7_add_20 : decode cX7_add 20 = .ok (.iconst 1, 1) := by decide +kernel
theorem dX7_add_21 : decode cX7_add 21 = .ok (.iadd, 1) := by decide +kernel
theorem dX7_add_22 : decode cX7_add 22 = .ok (.putfield 20, 3) := by decide +kernel
theorem dX7_add_25 : decode cX7_add 25 = .ok (.iload_n 2, 1) := by decide +kernel
theorem dX7_add_26 : decode cX7_add 26 = .ok (.ireturn, 1) := by decide +kernel
set_option maxRecDepth 20000 in
theorem ggX7_put_X9_set : GoodIn wsX7_put wsX9_set := goodIn_r _ [6, 7, 8, 9, 12, 13, 14] (by decide +kernel) (by decide +kernel)
set_option maxRecDepth 20000 in
theorem gX7_put_X9_set : GoodIn wsX7_put (wsV RX7 24 RX9 yX9_set wsX9_set) := goodIn_app (goodIn_of _ (by decide +kernel)) ggX7_put_X9_set
theorem dX7_put_0 : decode cX7_put 0 = .ok (.aload_n 0, 1) := by decide +kernel
theorem dX7_put_1 : decode cX7_put 1 = .ok (.getfield 14, 3) := by decide +kernel
theorem dX7_put_4 : decode cX7_put 4 = .ok (.iload_n 1, 1) := by decide +kernel
theorem dX7_put_5 : decode cX7_put 5 = .ok (.iload_n 2, 1) := by decide +kernel
theorem dX7_put_6 : decode cX7_put 6 = .ok (.iload_n 3, 1) := by decide +kernel
theorem dX7_put_7 : decode cX7_put 7 = .ok (.invokevirtual 24, 3) := by decide +kernel
theorem dX7_put_10 : decode cX7_put 10 = .ok (.return_, 1) := by decide +kernel
set_option maxRecDepth 20000 in
theorem ggX7_remove_X9_removeRow : GoodIn wsX7_remove wsX9_removeRow := goodIn_r _ [7, 8, 9, 10, 11, 12, 13, 14, 15, 16, 17, 20, 21, 22] (by decide +kernel) (by decide +kernel)
set_option maxRecDepth 20000 in
theorem gX7_remove_X9_removeRow : GoodIn wsX7_remove (wsV RX7 28 RX9 yX9_removeRow wsX9_removeRow) := goodIn_app (goodIn_of _ (by decide +kernel)) ggX7_remove_X9_removeRow
theorem dX7_remove_0 : decode cX7_remove 0 = .ok (.aload_n 0, 1) := by decide +kernel
theorem dX7_remove_1 : decode cX7_remove 1 = .ok (.getfield 14, 3) := by decide +kernel
theorem dX7_remove_4 : decode cX7_remove 4 = .ok (.iload_n 1, 1) := by decide +kernel
theorem dX7_remove_5 : decode cX7_remove 5 = .ok (.invokevirtual 28, 3) := by decide +kernel
theorem dX7_remove_8 : decode cX7_remove 8 = .ok (.aload_n 0, 1) := by decide +kernel
theorem dX7_remove_9 : decode cX7_remove 9 = .ok (.dup, 1) := by decide +kernel
theorem dX7_remove_10 : decode cX7_remove 10 = .ok (.getfield 20, 3) := by decide +kernel
theorem dX7_remove_13 : decode cX7_remove 13 = .ok (.iconst 1, 1) := by decide +kernel
theorem dX7_remove_14 : decode cX7_remove 14 = .ok (.isub, 1) := by decide +kernel
theorem dX7_remove_15 : decode cX7_remove 15 = .ok (.putfield 20, 3) := by decide +kernel
theorem dX7_remove_18 : decode cX7_remove 18 = .ok (.return_, 1) := by decide +kernel
set_option maxRecDepth 20000 in
theorem ggX7_raiseLevels_X9_get : GoodIn wsX7_raiseLevels wsX9_get := goodIn_r _ [7, 8, 9, 10, 25, 26, 27] (by decide +kernel) (by decide +kernel)
set_option maxRecDepth 20000 in
theorem gX7_raiseLevels_X9_get : GoodIn wsX7_raiseLevels (wsV RX7 32 RX9 yX9_get wsX9_get) := goodIn_app (goodIn_of _ (by decide +kernel)) ggX7_raiseLevels_X9_get
set_option maxRecDepth 20000 in
theorem ggX7_raiseLevels_X7_pulsedChannel : GoodIn wsX7_raiseLevels wsX7_pulsedChannel := goodIn_r _ [15, 2, 3, 4, 5, 6, 7, 8, 9, 10, 23, 24, 25, 26, 27] (by decide +kernel) (by decide +kernel)
set_option maxRecDepth 20000 in
theorem gX7_raiseLevels_X7_pulsedChannel : GoodIn wsX7_raiseLevels (wsV RX7 36 RX7 yX7_pulsedChannel wsX7_pulsedChannel) := goodIn_app (goodIn_of _ (by decide +kernel)) ggX7_raiseLevels_X7_pulsedChannel
set_option maxRecDepth 20000 in
theorem ggX7_raiseLevels_X7_hoppingChannel : GoodIn wsX7_raiseLevels wsX7_hoppingChannel := goodIn_r _ [19, 2, 3, 4, 5, 6, 7, 8, 9, 10, 23, 24, 25, 26, 27] (by decide +kernel) (by decide +kernel)
set_option maxRecDepth 20000 in
theorem gX7_raiseLevels_X7_hoppingChannel : GoodIn wsX7_raiseLevels (wsV RX7 39 RX7 yX7_hoppingChannel wsX7_hoppingChannel) := goodIn_app (goodIn_of _ (by decide +kernel)) ggX7_raiseLevels_X7_hoppingChannel
set_option maxRecDepth 20000 in
theorem ggX7_raiseLevels_X10_within : GoodIn wsX7_raiseLevels wsX10_within := goodIn_r _ [22] (by decide +kernel) (by decide +kernel)
set_option maxRecDepth 20000 in
theorem gX7_raiseLevels_X10_within_n42 : GoodIn wsX7_raiseLevels (wsX10_within) := ggX7_raiseLevels_X10_within
theorem dX7_raiseLevels_0 : decode cX7_raiseLevels 0 = .ok (.iconst 0, 1) := by decide +kernel
theorem dX7_raiseLevels_1 : decode cX7_raiseLevels 1 = .ok (.istore_n 3, 1) := by decide +kernel
theorem dX7_raiseLevels_2 : decode cX7_raiseLevels 2 = .ok (.iload_n 3, 1) := by decide +kernel
theorem dX7_raiseLevels_3 : decode cX7_raiseLevels 3 = .ok (.aload_n 0, 1) := by decide +kernel
theorem dX7_raiseLevels_4 : decode cX7_raiseLevels 4 = .ok (.getfield 20, 3) := by decide +kernel
theorem dX7_raiseLevels_7 : decode cX7_raiseLevels 7 = .ok (.if_icmp .ge 95, 3) := by decide +kernel
theorem dX7_raiseLevels_10 : decode cX7_raiseLevels 10 = .ok (.aload_n 0, 1) := by decide +kernel
theorem dX7_raiseLevels_11 : decode cX7_raiseLevels 11 = .ok (.getfield 14, 3) := by decide +kernel
theorem dX7_raiseLevels_14 : decode cX7_raiseLevels 14 = .ok (.iload_n 3, 1) := by decide +kernel
theorem dX7_raiseLevels_15 : decode cX7_raiseLevels 15 = .ok (.iconst 0, 1) := by decide +kernel
theorem dX7_raiseLevels_16 : decode cX7_raiseLevels 16 = .ok (.invokevirtual 32, 3) := by decide +kernel
theorem dX7_raiseLevels_19 : decode cX7_raiseLevels 19 = .ok (.ifCond .ne 7, 3) := by decide +kernel
theorem dX7_raiseLevels_22 : decode cX7_raiseLevels 22 = .ok (.iconst 1, 1) := by decide +kernel
theorem dX7_raiseLevels_23 : decode cX7_raiseLevels 23 = .ok (.goto 4, 3) := by decide +kernel
theorem dX7_raiseLevels_26 : decode cX7_raiseLevels 26 = .ok (.iconst 0, 1) := by decide +kernel
theorem dX7_raiseLevels_27 : decode cX7_raiseLevels 27 = .ok (.istore 4, 2) := by decide +kernel
theorem dX7_raiseLevels_29 : decode cX7_raiseLevels 29 = .ok (.iload 4, 2) := by decide +kernel
theorem dX7_raiseLevels_31 : decode cX7_raiseLevels 31 = .ok (.ifCond .eq 12, 3) := by decide +kernel
theorem dX7_raiseLevels_34 : decode cX7_raiseLevels 34 = .ok (.aload_n 0, 1) := by decide +kernel
theorem dX7_raiseLevels_35 : decode cX7_raiseLevels 35 = .ok (.iload_n 3, 1) := by decide +kernel
theorem dX7_raiseLevels_36 : decode cX7_raiseLevels 36 = .ok (.iload_n 1, 1) := by decide +kernel
theorem dX7_raiseLevels_37 : decode cX7_raiseLevels 37 = .ok (.invokevirtual 36, 3) := by decide +kernel
theorem dX7_raiseLevels_40 : decode cX7_raiseLevels 40 = .ok (.goto 9, 3) := by decide +kernel
theorem dX7_raiseLevels_43 : decode cX7_raiseLevels 43 = .ok (.aload_n 0, 1) := by decide +kernel
theorem dX7_raiseLevels_44 : decode cX7_raiseLevels 44 = .ok (.iload_n 3, 1) := by decide +kernel
theorem dX7_raiseLevels_45 : decode cX7_raiseLevels 45 = .ok (.iload_n 1, 1) := by decide +kernel
theorem dX7_raiseLevels_46 : decode cX7_raiseLevels 46 = .ok (.invokevirtual 39, 3) := by decide +kernel
theorem dX7_raiseLevels_49 : decode cX7_raiseLevels 49 = .ok (.istore 5, 2) := by decide +kernel
theorem dX7_raiseLevels_51 : decode cX7_raiseLevels 51 = .ok (.aload_n 0, 1) := by decide +kernel
theorem dX7_raiseLevels_52 : decode cX7_raiseLevels 52 = .ok (.getfield 14, 3) := by decide +kernel
theorem dX7_raiseLevels_55 : decode cX7_raiseLevels 55 = .ok (.iload_n 3, 1) := by decide +kernel
theorem dX7_raiseLevels_56 : decode cX7_raiseLevels 56 = .ok (.iload 4, 2) := by decide +kernel
theorem dX7_raiseLevels_58 : decode cX7_raiseLevels 58 = .ok (.ifCond .eq 7, 3) := by decide +kernel
theorem dX7_raiseLevels_61 : decode cX7_raiseLevels 61 = .ok (.iconst 2, 1) := by decide +kernel
theorem dX7_raiseLevels_62 : decode cX7_raiseLevels 62 = .ok (.goto 4, 3) := by decide +kernel
theorem dX7_raiseLevels_65 : decode cX7_raiseLevels 65 = .ok (.iconst 4, 1) := by decide +kernel
theorem dX7_raiseLevels_66 : decode cX7_raiseLevels 66 = .ok (.invokevirtual 32, 3) := by decide +kernel
theorem dX7_raiseLevels_69 : decode cX7_raiseLevels 69 = .ok (.istore 6, 2) := by decide +kernel
theorem dX7_raiseLevels_71 : decode cX7_raiseLevels 71 = .ok (.iload 5, 2) := by decide +kernel
theorem dX7_raiseLevels_73 : decode cX7_raiseLevels 73 = .ok (.aload_n 2, 1) := by decide +kernel
theorem dX7_raiseLevels_74 : decode cX7_raiseLevels 74 = .ok (.arraylength, 1) := by decide +kernel
theorem dX7_raiseLevels_75 : decode cX7_raiseLevels 75 = .ok (.invokestatic 42, 3) := by decide +kernel
theorem dX7_raiseLevels_78 : decode cX7_raiseLevels 78 = .ok (.ifCond .eq 18, 3) := by decide +kernel
theorem dX7_raiseLevels_81 : decode cX7_raiseLevels 81 = .ok (.iload 6, 2) := by decide +kernel
theorem dX7_raiseLevels_83 : decode cX7_raiseLevels 83 = .ok (.aload_n 2, 1) := by decide +kernel
theorem dX7_raiseLevels_84 : decode cX7_raiseLevels 84 = .ok (.iload 5, 2) := by decide +kernel
theorem dX7_raiseLevels_86 : decode cX7_raiseLevels 86 = .ok (.iaload, 1) := by decide +kernel
theorem dX7_raiseLevels_87 : decode cX7_raiseLevels 87 = .ok (.if_icmp .le 9, 3) := by decide +kernel
theorem dX7_raiseLevels_90 : decode cX7_raiseLevels 90 = .ok (.aload_n 2, 1) := by decide +kernel
theorem dX7_raiseLevels_91 : decode cX7_raiseLevels 91 = .ok (.iload 5, 2) := by decide +kernel
theorem dX7_raiseLevels_93 : decode cX7_raiseLevels 93 = .ok (.iload 6, 2) := by decide +kernel
theorem dX7_raiseLevels_95 : decode cX7_raiseLevels 95 = .ok (.iastore, 1) := by decide +kernel
theorem dX7_raiseLevels_96 : decode cX7_raiseLevels 96 = .ok (.iinc 3 1, 3) := by decide +kernel
theorem dX7_raiseLevels_99 : decode cX7_raiseLevels 99 = .ok (.goto (-97), 3) := by decide +kernel
theorem dX7_raiseLevels_102 : decode cX7_raiseLevels 102 = .ok (.return_, 1) := by decide +kernel
set_option maxRecDepth 20000 in
theorem ggX7_pulsedChannel_X9_get : GoodIn wsX7_pulsedChannel wsX9_get := goodIn_r _ [6, 7, 8, 9, 12, 13, 14] (by decide +kernel) (by decide +kernel)
set_option maxRecDepth 20000 in
theorem gX7_pulsedChannel_X9_get : GoodIn wsX7_pulsedChannel (wsV RX7 32 RX9 yX9_get wsX9_get) := goodIn_app (goodIn_of _ (by decide +kernel)) ggX7_pulsedChannel_X9_get
theorem dX7_pulsedChannel_0 : decode cX7_pulsedChannel 0 = .ok (.iload_n 2, 1) := by decide +kernel
theorem dX7_pulsedChannel_1 : decode cX7_pulsedChannel 1 = .ok (.aload_n 0, 1) := by decide +kernel
theorem dX7_pulsedChannel_2 : decode cX7_pulsedChannel 2 = .ok (.getfield 14, 3) := by decide +kernel
theorem dX7_pulsedChannel_5 : decode cX7_pulsedChannel 5 = .ok (.iload_n 1, 1) := by decide +kernel
theorem dX7_pulsedChannel_6 : decode cX7_pulsedChannel 6 = .ok (.iconst 3, 1) := by decide +kernel
theorem dX7_pulsedChannel_7 : decode cX7_pulsedChannel 7 = .ok (.invokevirtual 32, 3) := by decide +kernel
theorem dX7_pulsedChannel_10 : decode cX7_pulsedChannel 10 = .ok (.isub, 1) := by decide +kernel
theorem dX7_pulsedChannel_11 : decode cX7_pulsedChannel 11 = .ok (.istore_n 3, 1) := by decide +kernel
theorem dX7_pulsedChannel_12 : decode cX7_pulsedChannel 12 = .ok (.aload_n 0, 1) := by decide +kernel
theorem dX7_pulsedChannel_13 : decode cX7_pulsedChannel 13 = .ok (.getfield 14, 3) := by decide +kernel
theorem dX7_pulsedChannel_16 : decode cX7_pulsedChannel 16 = .ok (.iload_n 1, 1) := by decide +kernel
theorem dX7_pulsedChannel_17 : decode cX7_pulsedChannel 17 = .ok (.iconst 5, 1) := by decide +kernel
theorem dX7_pulsedChannel_18 : decode cX7_pulsedChannel 18 = .ok (.invokevirtual 32, 3) := by decide +kernel
theorem dX7_pulsedChannel_21 : decode cX7_pulsedChannel 21 = .ok (.istore 4, 2) := by decide +kernel
theorem dX7_pulsedChannel_23 : decode cX7_pulsedChannel 23 = .ok (.iload_n 3, 1) := by decide +kernel
theorem dX7_pulsedChannel_24 : decode cX7_pulsedChannel 24 = .ok (.ifCond .lt 9, 3) := by decide +kernel
theorem dX7_pulsedChannel_27 : decode cX7_pulsedChannel 27 = .ok (.iload 4, 2) := by decide +kernel
theorem dX7_pulsedChannel_29 : decode cX7_pulsedChannel 29 = .ok (.iconst 1, 1) := by decide +kernel
theorem dX7_pulsedChannel_30 : decode cX7_pulsedChannel 30 = .ok (.if_icmp .ge 5, 3) := by decide +kernel
theorem dX7_pulsedChannel_33 : decode cX7_pulsedChannel 33 = .ok (.iconst (-1), 1) := by decide +kernel
theorem dX7_pulsedChannel_34 : decode cX7_pulsedChannel 34 = .ok (.ireturn, 1) := by decide +kernel
theorem dX7_pulsedChannel_35 : decode cX7_pulsedChannel 35 = .ok (.iload_n 3, 1) := by decide +kernel
theorem dX7_pulsedChannel_36 : decode cX7_pulsedChannel 36 = .ok (.iload 4, 2) := by decide +kernel
theorem dX7_pulsedChannel_38 : decode cX7_pulsedChannel 38 = .ok (.irem, 1) := by decide +kernel
theorem dX7_pulsedChannel_39 : decode cX7_pulsedChannel 39 = .ok (.aload_n 0, 1) := by decide +kernel
theorem dX7_pulsedChannel_40 : decode cX7_pulsedChannel 40 = .ok (.getfield 14, 3) := by decide +kernel
theorem dX7_pulsedChannel_43 : decode cX7_pulsedChannel 43 = .ok (.iload_n 1, 1) := by decide +kernel
theorem dX7_pulsedChannel_44 : decode cX7_pulsedChannel 44 = .ok (.iconst 4, 1) := by decide +kernel
theorem dX7_pulsedChannel_45 : decode cX7_pulsedChannel 45 = .ok (.invokevirtual 32, 3) := by decide +kernel
theorem dX7_pulsedChannel_48 : decode cX7_pulsedChannel 48 = .ok (.if_icmp .ge 7, 3) := by decide +kernel
theorem dX7_pulsedChannel_51 : decode cX7_pulsedChannel 51 = .ok (.iconst 1, 1) := by decide +kernel
theorem dX7_pulsedChannel_52 : decode cX7_pulsedChannel 52 = .ok (.goto 4, 3) := by decide +kernel
theorem dX7_pulsedChannel_55 : decode cX7_pulsedChannel 55 = .ok (.iconst 0, 1) := by decide +kernel
theorem dX7_pulsedChannel_56 : decode cX7_pulsedChannel 56 = .ok (.istore 5, 2) := by decide +kernel
theorem dX7_pulsedChannel_58 : decode cX7_pulsedChannel 58 = .ok (.iload 5, 2) := by decide +kernel
theorem dX7_pulsedChannel_60 : decode cX7_pulsedChannel 60 = .ok (.ifCond .eq 15, 3) := by decide +kernel
theorem dX7_pulsedChannel_63 : decode cX7_pulsedChannel 63 = .ok (.aload_n 0, 1) := by decide +kernel
theorem dX7_pulsedChannel_64 : decode cX7_pulsedChannel 64 = .ok (.getfield 14, 3) := by decide +kernel
theorem dX7_pulsedChannel_67 : decode cX7_pulsedChannel 67 = .ok (.iload_n 1, 1) := by decide +kernel
theorem dX7_pulsedChannel_68 : decode cX7_pulsedChannel 68 = .ok (.iconst 1, 1) := by decide +kernel
theorem dX7_pulsedChannel_69 : decode cX7_pulsedChannel 69 = .ok (.invokevirtual 32, 3) := by decide +kernel
theorem dX7_pulsedChannel_72 : decode cX7_pulsedChannel 72 = .ok (.goto 4, 3) := by decide +kernel
theorem dX7_pulsedChannel_75 : decode cX7_pulsedChannel 75 = .ok (.iconst (-1), 1) := by decide +kernel
theorem dX7_pulsedChannel_76 : decode cX7_pulsedChannel 76 = .ok (.ireturn, 1) := by decide +kernel
set_option maxRecDepth 20000 in
theorem ggX7_hoppingChannel_X9_get : GoodIn wsX7_hoppingChannel wsX9_get := goodIn_r _ [6, 7, 8, 9, 12, 13, 14] (by decide +kernel) (by decide +kernel)
set_option maxRecDepth 20000 in
theorem gX7_hoppingChannel_X9_get : GoodIn wsX7_hoppingChannel (wsV RX7 32 RX9 yX9_get wsX9_get) := goodIn_app (goodIn_of _ (by decide +kernel)) ggX7_hoppingChannel_X9_get
theorem dX7_hoppingChannel_0 : decode cX7_hoppingChannel 0 = .ok (.iload_n 2, 1) := by decide +kernel
theorem dX7_hoppingChannel_1 : decode cX7_hoppingChannel 1 = .ok (.aload_n 0, 1) := by decide +kernel
theorem dX7_hoppingChannel_2 : decode cX7_hoppingChannel 2 = .ok (.getfield 14, 3) := by decide +kernel
theorem dX7_hoppingChannel_5 : decode cX7_hoppingChannel 5 = .ok (.iload_n 1, 1) := by decide +kernel
theorem dX7_hoppingChannel_6 : decode cX7_hoppingChannel 6 = .ok (.iconst 5, 1) := by decide +kernel
theorem dX7_hoppingChannel_7 : decode cX7_hoppingChannel 7 = .ok (.invokevirtual 32, 3) := by decide +kernel
theorem dX7_hoppingChannel_10 : decode cX7_hoppingChannel 10 = .ok (.isub, 1) := by decide +kernel
theorem dX7_hoppingChannel_11 : decode cX7_hoppingChannel 11 = .ok (.istore_n 3, 1) := by decide +kernel
theorem dX7_hoppingChannel_12 : decode cX7_hoppingChannel 12 = .ok (.aload_n 0, 1) := by decide +kernel
theorem dX7_hoppingChannel_13 : decode cX7_hoppingChannel 13 = .ok (.getfield 14, 3) := by decide +kernel
theorem dX7_hoppingChannel_16 : decode cX7_hoppingChannel 16 = .ok (.iload_n 1, 1) := by decide +kernel
theorem dX7_hoppingChannel_17 : decode cX7_hoppingChannel 17 = .ok (.iconst 3, 1) := by decide +kernel
theorem dX7_hoppingChannel_18 : decode cX7_hoppingChannel 18 = .ok (.invokevirtual 32, 3) := by decide +kernel
theorem dX7_hoppingChannel_21 : decode cX7_hoppingChannel 21 = .ok (.istore 4, 2) := by decide +kernel
theorem dX7_hoppingChannel_23 : decode cX7_hoppingChannel 23 = .ok (.iload_n 3, 1) := by decide +kernel
theorem dX7_hoppingChannel_24 : decode cX7_hoppingChannel 24 = .ok (.ifCond .lt 9, 3) := by decide +kernel
theorem dX7_hoppingChannel_27 : decode cX7_hoppingChannel 27 = .ok (.iload 4, 2) := by decide +kernel
theorem dX7_hoppingChannel_29 : decode cX7_hoppingChannel 29 = .ok (.iconst 1, 1) := by decide +kernel
theorem dX7_hoppingChannel_30 : decode cX7_hoppingChannel 30 = .ok (.if_icmp .ge 5, 3) := by decide +kernel
theorem dX7_hoppingChannel_33 : decode cX7_hoppingChannel 33 = .ok (.iconst (-1), 1) := by decide +kernel
theorem dX7_hoppingChannel_34 : decode cX7_hoppingChannel 34 = .ok (.ireturn, 1) := by decide +kernel
theorem dX7_hoppingChannel_35 : decode cX7_hoppingChannel 35 = .ok (.aload_n 0, 1) := by decide +kernel
theorem dX7_hoppingChannel_36 : decode cX7_hoppingChannel 36 = .ok (.getfield 14, 3) := by decide +kernel
theorem dX7_hoppingChannel_39 : decode cX7_hoppingChannel 39 = .ok (.iload_n 1, 1) := by decide +kernel
theorem dX7_hoppingChannel_40 : decode cX7_hoppingChannel 40 = .ok (.iconst 2, 1) := by decide +kernel
theorem dX7_hoppingChannel_41 : decode cX7_hoppingChannel 41 = .ok (.invokevirtual 32, 3) := by decide +kernel
theorem dX7_hoppingChannel_44 : decode cX7_hoppingChannel 44 = .ok (.iload_n 3, 1) := by decide +kernel
theorem dX7_hoppingChannel_45 : decode cX7_hoppingChannel 45 = .ok (.iload 4, 2) := by decide +kernel
theorem dX7_hoppingChannel_47 : decode cX7_hoppingChannel 47 = .ok (.idiv, 1) := by decide +kernel
theorem dX7_hoppingChannel_48 : decode cX7_hoppingChannel 48 = .ok (.imul, 1) := by decide +kernel
theorem dX7_hoppingChannel_49 : decode cX7_hoppingChannel 49 = .ok (.istore 5, 2) := by decide +kernel
theorem dX7_hoppingChannel_51 : decode cX7_hoppingChannel 51 = .ok (.aload_n 0, 1) := by decide +kernel
theorem dX7_hoppingChannel_52 : decode cX7_hoppingChannel 52 = .ok (.getfield 14, 3) := by decide +kernel
theorem dX7_hoppingChannel_55 : decode cX7_hoppingChannel 55 = .ok (.iload_n 1, 1) := by decide +kernel
theorem dX7_hoppingChannel_56 : decode cX7_hoppingChannel 56 = .ok (.iconst 1, 1) := by decide +kernel
theorem dX7_hoppingChannel_57 : decode cX7_hoppingChannel 57 = .ok (.invokevirtual 32, 3) := by decide +kernel
theorem dX7_hoppingChannel_60 : decode cX7_hoppingChannel 60 = .ok (.iload 5, 2) := by decide +kernel
theorem dX7_hoppingChannel_62 : decode cX7_hoppingChannel 62 = .ok (.iadd, 1) := by decide +kernel
theorem dX7_hoppingChannel_63 : decode cX7_hoppingChannel 63 = .ok (.bipush 32, 2) := by decide +kernel
theorem dX7_hoppingChannel_65 : decode cX7_hoppingChannel 65 = .ok (.irem, 1) := by decide +kernel
theorem dX7_hoppingChannel_66 : decode cX7_hoppingChannel 66 = .ok (.ireturn, 1) := by decide +kernel
set_option maxRecDepth 20000 in
theorem ggX7_copyFrom_X9_copyFrom : GoodIn wsX7_copyFrom wsX9_copyFrom := goodIn_r _ [7, 8, 9, 10, 11, 12, 13, 14, 15, 16, 19, 20, 21] (by decide +kernel) (by decide +kernel)
set_option maxRecDepth 20000 in
theorem gX7_copyFrom_X9_copyFrom : GoodIn wsX7_copyFrom (wsV RX7 46 RX9 yX9_copyFrom wsX9_copyFrom) := goodIn_app (goodIn_of _ (by decide +kernel)) ggX7_copyFrom_X9_copyFrom
theorem dX7_copyFrom_0 : decode cX7_copyFrom 0 = .ok (.aload_n 0, 1) := by decide +kernel
theorem dX7_copyFrom_1 : decode cX7_copyFrom 1 = .ok (.getfield 14, 3) := by decide +kernel
theorem dX7_copyFrom_4 : decode cX7_copyFrom 4 = .ok (.aload_n 1, 1) := by decide +kernel
theorem dX7_copyFrom_5 : decode cX7_copyFrom 5 = .ok (.getfield 14, 3) := by decide +kernel
theorem dX7_copyFrom_8 : decode cX7_copyFrom 8 = .ok (.invokevirtual 46, 3) := by decide +kernel
theorem dX7_copyFrom_11 : decode cX7_copyFrom 11 = .ok (.aload_n 0, 1) := by decide +kernel
theorem dX7_copyFrom_12 : decode cX7_copyFrom 12 = .ok (.aload_n 1, 1) := by decide +kernel
theorem dX7_copyFrom_13 : decode cX7_copyFrom 13 = .ok (.getfield 20, 3) := by decide +kernel
theorem dX7_copyFrom_16 : decode cX7_copyFrom 16 = .ok (.putfield 20, 3) := by decide +kernel
theorem dX7_copyFrom_19 : decode cX7_copyFrom 19 = .ok (.return_, 1) := by decide +kernel
set_option maxRecDepth 20000 in
theorem ggX8_init_X7_init : GoodIn wsX8_init wsX7_init := goodIn_r _ [25, 26, 2, 3, 27, 28, 29, 30, 31, 32, 33, 34, 35, 36, 37, 38, 39, 40, 41, 42, 106, 107, 108, 84, 85] (by decide +kernel) (by decide +kernel)
set_option maxRecDepth 20000 in
theorem gX8_init_X7_init_n11 : GoodIn wsX8_init (wsX7_init) := ggX8_init_X7_init
set_option maxRecDepth 20000 in
theorem ggX8_init_X5_init : GoodIn wsX8_init wsX5_init := goodIn_r _ [44, 45, 2, 3, 46, 28, 29, 47, 48, 32, 33, 34, 35, 36, 37, 38, 39, 40, 41, 42, 106, 107, 108, 95, 96, 97, 98] (by decide +kernel) (by decide +kernel)
set_option maxRecDepth 20000 in
theorem gX8_init_X5_init_n20 : GoodIn wsX8_init (wsX5_init) := ggX8_init_X5_init
set_option maxRecDepth 20000 in
theorem ggX8_init_X1_init : GoodIn wsX8_init wsX1_init := goodIn_r _ [51, 52, 2, 3, 53, 28, 29, 54, 55, 56, 57, 32, 33, 34, 35, 36, 37, 38, 39, 40, 41, 42, 58, 59, 60, 61, 62, 63, 64, 65, 66, 67, 68, 14, 69, 70, 71, 72, 73, 106, 107, 108, 99, 100, 101] (by decide +kernel) (by decide +kernel)
set_option maxRecDepth 20000 in
theorem gX8_init_X1_init : GoodIn wsX8_init (wsX1_init) := ggX8_init_X1_init
set_option maxRecDepth 20000 in
theorem ggX8_init_X2_init : GoodIn wsX8_init wsX2_init := goodIn_r _ [76, 77, 2, 3, 78, 28, 29, 79, 41, 80, 81, 82, 32, 33, 34, 35, 36, 37, 38, 39, 40, 42, 83, 59, 60, 61, 62, 63, 64, 65, 106, 107, 108, 102, 103, 104, 105] (by decide +kernel) (by decide +kernel)
set_option maxRecDepth 20000 in
theorem gX8_init_X2_init : GoodIn wsX8_init (wsX2_init) := ggX8_init_X2_init
theorem dX8_init_0 : decode cX8_init 0 = .ok (.aload_n 0, 1) := by decide +kernel
theorem dX8_init_1 : decode cX8_init 1 = .ok (.invokespecial 3, 3) := by decide +kernel
theorem dX8_init_4 : decode cX8_init 4 = .ok (.aload_n 0, 1) := by decide +kernel
theorem dX8_init_5 : decode cX8_init 5 = .ok (.new 9, 3) := by decide +kernel
theorem dX8_init_8 : decode cX8_init 8 = .ok (.dup, 1) := by decide +kernel
theorem dX8_init_9 : decode cX8_init 9 = .ok (.invokespecial 11, 3) := by decide +kernel
theorem dX8_init_12 : decode cX8_init 12 = .ok (.putfield 12, 3) := by decide +kernel
theorem dX8_init_15 : decode cX8_init 15 = .ok (.aload_n 0, 1) := by decide +kernel
theorem dX8_init_16 : decode cX8_init 16 = .ok (.new 18, 3) := by decide +kernel
theorem dX8_init_19 : decode cX8_init 19 = .ok (.dup, 1) := by decide +kernel
theorem dX8_init_20 : decode cX8_init 20 = .ok (.invokespecial 20, 3) := by decide +kernel
theorem dX8_init_23 : decode cX8_init 23 = .ok (.putfield 21, 3) := by decide +kernel
theorem dX8_init_26 : decode cX8_init 26 = .ok (.aload_n 0, 1) := by decide +kernel
theorem dX8_init_27 : decode cX8_init 27 = .ok (.new 25, 3) := by decide +kernel
theorem dX8_init_30 : decode cX8_init 30 = .ok (.dup, 1) := by decide +kernel
theorem dX8_init_31 : decode cX8_init 31 = .ok (.invokespecial 27, 3) := by decide +kernel
theorem dX8_init_34 : decode cX8_init 34 = .ok (.putfield 28, 3) := by decide +kernel
theorem dX8_init_37 : decode cX8_init 37 = .ok (.aload_n 0, 1) := by decide +kernel
theorem dX8_init_38 : decode cX8_init 38 = .ok (.new 32, 3) := by decide +kernel
theorem dX8_init_41 : decode cX8_init 41 = .ok (.dup, 1) := by decide +kernel
theorem dX8_init_42 : decode cX8_init 42 = .ok (.invokespecial 34, 3) := by decide +kernel
theorem dX8_init_45 : decode cX8_init 45 = .ok (.putfield 35, 3) := by decide +kernel
theorem dX8_init_48 : decode cX8_init 48 = .ok (.aload_n 0, 1) := by decide +kernel
theorem dX8_init_49 : decode cX8_init 49 = .ok (.bipush 10, 2) := by decide +kernel
theorem dX8_init_51 : decode cX8_init 51 = .ok (.putfield 39, 3) := by decide +kernel
theorem dX8_init_54 : decode cX8_init 54 = .ok (.aload_n 0, 1) := by decide +kernel
theorem dX8_init_55 : decode cX8_init 55 = .ok (.bipush 30, 2) := by decide +kernel
theorem dX8_init_57 : decode cX8_init 57 = .ok (.putfield 43, 3) := by decide +kernel
theorem dX8_init_60 : decode cX8_init 60 = .ok (.aload_n 0, 1) := by decide +kernel
theorem dX8_init_61 : decode cX8_init 61 = .ok (.bipush 10, 2) := by decide +kernel
theorem dX8_init_63 : decode cX8_init 63 = .ok (.putfield 46, 3) := by decide +kernel
theorem dX8_init_66 : decode cX8_init 66 = .ok (.aload_n 0, 1) := by decide +kernel
theorem dX8_init_67 : decode cX8_init 67 = .ok (.iconst 5, 1) := by decide +kernel
theorem dX8_init_68 : decode cX8_init 68 = .ok (.putfield 49, 3) := by decide +kernel
theorem dX8_init_71 : decode cX8_init 71 = .ok (.return_, 1) := by decide +kernel
set_option maxRecDepth 20000 in
theorem ggX8_fillLevels_J7_fill_53178 : GoodIn wsX8_fillLevels wsJ7_fill_53178 := goodIn_r _ [7] (by decide +kernel) (by decide +kernel)
set_option maxRecDepth 20000 in
theorem gX8_fillLevels_J7_fill_53178 : GoodIn wsX8_fillLevels (va_wsS RX8 52 yJ7_fill_53178 wsJ7_fill_53178) := goodIn_app (goodIn_of _ (by decide +kernel)) ggX8_fillLevels_J7_fill_53178
set_option maxRecDepth 20000 in
theorem ggX8_fillLevels_X7_raiseLevels : GoodIn wsX8_fillLevels wsX7_raiseLevels := goodIn_r _ [12, 13, 14, 15, 16, 17, 18, 19, 20, 21, 22, 23, 24, 25, 11, 26, 27, 28, 29, 30, 31, 32, 33, 43, 44, 45, 46, 47] (by decide +kernel) (by decide +kernel)
set_option maxRecDepth 20000 in
theorem gX8_fillLevels_X7_raiseLevels : GoodIn wsX8_fillLevels (wsV RX8 61 RX7 yX7_raiseLevels wsX7_raiseLevels) := goodIn_app (goodIn_of _ (by decide +kernel)) ggX8_fillLevels_X7_raiseLevels
theorem dX8_fillLevels_0 : decode cX8_fillLevels 0 = .ok (.aload_n 1, 1) := by decide +kernel
theorem dX8_fillLevels_1 : decode cX8_fillLevels 1 = .ok (.aload_n 0, 1) := by decide +kernel
theorem dX8_fillLevels_2 : decode cX8_fillLevels 2 = .ok (.getfield 39, 3) := by decide +kernel
theorem dX8_fillLevels_5 : decode cX8_fillLevels 5 = .ok (.invokestatic 52, 3) := by decide +kernel
theorem dX8_fillLevels_8 : decode cX8_fillLevels 8 = .ok (.aload_n 0, 1) := by decide +kernel
theorem dX8_fillLevels_9 : decode cX8_fillLevels 9 = .ok (.getfield 12, 3) := by decide +kernel
theorem dX8_fillLevels_12 : decode cX8_fillLevels 12 = .ok (.aload_n 0, 1) := by decide +kernel
theorem dX8_fillLevels_13 : decode cX8_fillLevels 13 = .ok (.getfield 58, 3) := by decide +kernel
theorem dX8_fillLevels_16 : decode cX8_fillLevels 16 = .ok (.aload_n 1, 1) := by decide +kernel
theorem dX8_fillLevels_17 : decode cX8_fillLevels 17 = .ok (.invokevirtual 61, 3) := by decide +kernel
theorem dX8_fillLevels_20 : decode cX8_fillLevels 20 = .ok (.return_, 1) := by decide +kernel
set_option maxRecDepth 20000 in
theorem ggX8_passTick_X5_nextStep : GoodIn wsX8_passTick wsX5_nextStep := goodIn_r _ [7, 8, 9, 124, 125, 126, 127] (by decide +kernel) (by decide +kernel)
set_option maxRecDepth 20000 in
theorem gX8_passTick_X5_nextStep : GoodIn wsX8_passTick (wsV RX8 65 RX5 yX5_nextStep wsX5_nextStep) := goodIn_app (goodIn_of _ (by decide +kernel)) ggX8_passTick_X5_nextStep
set_option maxRecDepth 20000 in
theorem ggX8_passTick_X8_fillLevels : GoodIn wsX8_passTick wsX8_fillLevels := goodIn_r _ [14, 15, 16, 1, 17, 18, 19, 20, 21, 22, 23, 24, 25, 26, 27, 28, 29, 30, 31, 32, 33, 34, 35, 36, 37, 38, 39, 40, 41, 42, 43, 44, 45, 46, 115, 116, 117, 118, 119, 120, 121, 122, 123, 128, 129, 130, 131, 132] (by decide +kernel) (by decide +kernel)
set_option maxRecDepth 20000 in
theorem gX8_passTick_X8_fillLevels : GoodIn wsX8_passTick (wsV RX8 69 RX8 yX8_fillLevels wsX8_fillLevels) := goodIn_app (goodIn_of _ (by decide +kernel)) ggX8_passTick_X8_fillLevels
set_option maxRecDepth 20000 in
theorem ggX8_passTick_X5_covers : GoodIn wsX8_passTick wsX5_covers := goodIn_r _ [50, 51, 52, 29, 30, 31, 32, 33, 34, 35, 124, 125, 126, 127, 130, 131, 132] (by decide +kernel) (by decide +kernel)
set_option maxRecDepth 20000 in
theorem gX8_passTick_X5_covers : GoodIn wsX8_passTick (wsV RX8 73 RX5 yX5_covers wsX5_covers) := goodIn_app (goodIn_of _ (by decide +kernel)) ggX8_passTick_X5_covers
set_option maxRecDepth 20000 in
theorem ggX8_passTick_X8_observe : GoodIn wsX8_passTick wsX8_observe := goodIn_r _ [56, 57, 58, 59, 1, 60, 61, 62, 63, 64, 65, 66, 67, 29, 30, 31, 32, 33, 34, 35, 68, 69, 70, 71, 72, 73, 74, 75, 76, 77, 78, 79, 80, 81, 82, 83, 84, 85, 86, 87, 88, 89, 90, 91, 92, 93, 94, 95, 96, 97, 98, 99, 100, 101, 102, 103, 104, 44, 45, 46, 105, 106, 107, 108, 109, 115, 116, 117, 118, 119, 120, 121, 122, 123, 133, 134, 135, 130, 131, 132, 136, 137, 138, 139] (by decide +kernel) (by decide +kernel)
set_option maxRecDepth 20000 in
theorem gX8_passTick_X8_observe : GoodIn wsX8_passTick (wsV RX8 77 RX8 yX8_observe wsX8_observe) := goodIn_app (goodIn_of _ (by decide +kernel)) ggX8_passTick_X8_observe
set_option maxRecDepth 20000 in
theorem ggX8_passTick_X5_passTick : GoodIn wsX8_passTick wsX5_passTick := goodIn_r _ [113, 114, 51, 9, 8, 52, 29, 30, 31, 32, 33, 34, 35, 124, 125, 126, 127, 130, 131, 132] (by decide +kernel) (by decide +kernel)
set_option maxRecDepth 20000 in
theorem gX8_passTick_X5_passTick : GoodIn wsX8_passTick (wsV RX8 81 RX5 yX5_passTick wsX5_passTick) := goodIn_app (goodIn_of _ (by decide +kernel)) ggX8_passTick_X5_passTick
theorem dX8_passTick_0 : decode cX8_passTick 0 = .ok (.aload_n 0, 1) := by decide +kernel
theorem dX8_passTick_1 : decode cX8_passTick 1 = .ok (.dup, 1) := by decide +kernel
theorem dX8_passTick_2 : decode cX8_passTick 2 = .ok (.getfield 58, 3) := by decide +kernel
theorem dX8_passTick_5 : decode cX8_passTick 5 = .ok (.iconst 1, 1) := by decide +kernel
theorem dX8_passTick_6 : decode cX8_passTick 6 = .ok (.iadd, 1) := by decide +kernel
theorem dX8_passTick_7 : decode cX8_passTick 7 = .ok (.putfield 58, 3) := by decide +kernel
theorem dX8_passTick_10 : decode cX8_passTick 10 = .ok (.aload_n 0, 1) := by decide +kernel
theorem dX8_passTick_11 : decode cX8_passTick 11 = .ok (.getfield 21, 3) := by decide +kernel
theorem dX8_passTick_14 : decode cX8_passTick 14 = .ok (.invokevirtual 65, 3) := by decide +kernel
theorem dX8_passTick_17 : decode cX8_passTick 17 = .ok (.istore_n 2, 1) := by decide +kernel
theorem dX8_passTick_18 : decode cX8_passTick 18 = .ok (.iload_n 2, 1) := by decide +kernel
theorem dX8_passTick_19 : decode cX8_passTick 19 = .ok (.iconst (-1), 1) := by decide +kernel
theorem dX8_passTick_20 : decode cX8_passTick 20 = .ok (.if_icmp .ne 4, 3) := by decide +kernel
theorem dX8_passTick_23 : decode cX8_passTick 23 = .ok (.return_, 1) := by decide +kernel
theorem dX8_passTick_24 : decode cX8_passTick 24 = .ok (.aload_n 0, 1) := by decide +kernel
theorem dX8_passTick_25 : decode cX8_passTick 25 = .ok (.aload_n 1, 1) := by decide +kernel
theorem dX8_passTick_26 : decode cX8_passTick 26 = .ok (.invokevirtual 69, 3) := by decide +kernel
theorem dX8_passTick_29 : decode cX8_passTick 29 = .ok (.iconst 0, 1) := by decide +kernel
theorem dX8_passTick_30 : decode cX8_passTick 30 = .ok (.istore_n 3, 1) := by decide +kernel
theorem dX8_passTick_31 : decode cX8_passTick 31 = .ok (.iload_n 3, 1) := by decide +kernel
theorem dX8_passTick_32 : decode cX8_passTick 32 = .ok (.aload_n 1, 1) := by decide +kernel
theorem dX8_passTick_33 : decode cX8_passTick 33 = .ok (.arraylength, 1) := by decide +kernel
theorem dX8_passTick_34 : decode cX8_passTick 34 = .ok (.if_icmp .ge 29, 3) := by decide +kernel
theorem dX8_passTick_37 : decode cX8_passTick 37 = .ok (.aload_n 0, 1) := by decide +kernel
theorem dX8_passTick_38 : decode cX8_passTick 38 = .ok (.getfield 21, 3) := by decide +kernel
theorem dX8_passTick_41 : decode cX8_passTick 41 = .ok (.iload_n 2, 1) := by decide +kernel
theorem dX8_passTick_42 : decode cX8_passTick 42 = .ok (.iload_n 3, 1) := by decide +kernel
theorem dX8_passTick_43 : decode cX8_passTick 43 = .ok (.invokevirtual 73, 3) := by decide +kernel
theorem dX8_passTick_46 : decode cX8_passTick 46 = .ok (.ifCond .eq 11, 3) := by decide +kernel
theorem dX8_passTick_49 : decode cX8_passTick 49 = .ok (.aload_n 0, 1) := by decide +kernel
theorem dX8_passTick_50 : decode cX8_passTick 50 = .ok (.iload_n 3, 1) := by decide +kernel
theorem dX8_passTick_51 : decode cX8_passTick 51 = .ok (.aload_n 1, 1) := by decide +kernel
theorem dX8_passTick_52 : decode cX8_passTick 52 = .ok (.iload_n 3, 1) := by decide +kernel
theorem dX8_passTick_53 : decode cX8_passTick 53 = .ok (.iaload, 1) := by decide +kernel
theorem dX8_passTick_54 : decode cX8_passTick 54 = .ok (.invokevirtual 77, 3) := by decide +kernel
theorem dX8_passTick_57 : decode cX8_passTick 57 = .ok (.iinc 3 1, 3) := by decide +kernel
theorem dX8_passTick_60 : decode cX8_passTick 60 = .ok (.goto (-29), 3) := by decide +kernel
theorem dX8_passTick_63 : decode cX8_passTick 63 = .ok (.aload_n 0, 1) := by decide +kernel
theorem dX8_passTick_64 : decode cX8_passTick 64 = .ok (.getfield 21, 3) := by decide +kernel
theorem dX8_passTick_67 : decode cX8_passTick 67 = .ok (.invokevirtual 81, 3) := by decide +kernel
theorem dX8_passTick_70 : decode cX8_passTick 70 = .ok (.return_, 1) := by decide +kernel
set_option maxRecDepth 20000 in
theorem ggX8_observe_X1_observe : GoodIn wsX8_observe wsX1_observe := goodIn_r _ [9, 10, 11, 12, 13, 14, 15, 16, 17, 18, 19, 20, 21, 22, 23, 24, 25, 26, 27, 28, 29, 30, 31, 32, 8, 33, 34, 74, 75, 76, 77, 78, 79] (by decide +kernel) (by decide +kernel)
set_option maxRecDepth 20000 in
theorem gX8_observe_X1_observe : GoodIn wsX8_observe (wsV RX8 84 RX1 yX1_observe wsX1_observe) := goodIn_app (goodIn_of _ (by decide +kernel)) ggX8_observe_X1_observe
set_option maxRecDepth 20000 in
theorem ggX8_observe_X2_noteHit : GoodIn wsX8_observe wsX2_noteHit := goodIn_r _ [39, 40, 41, 42, 13, 14, 15, 16, 17, 18, 19, 43, 44, 45, 38, 46, 47, 48, 49, 50, 51, 52, 53, 54, 55, 56, 57, 58, 59, 60, 21, 22, 23, 80, 81, 82, 83, 77, 78, 79] (by decide +kernel) (by decide +kernel)
set_option maxRecDepth 20000 in
theorem gX8_observe_X2_noteHit : GoodIn wsX8_observe (wsV RX8 87 RX2 yX2_noteHit wsX2_noteHit) := goodIn_app (goodIn_of _ (by decide +kernel)) ggX8_observe_X2_noteHit
set_option maxRecDepth 20000 in
theorem ggX8_observe_X2_noteMiss : GoodIn wsX8_observe wsX2_noteMiss := goodIn_r _ [64, 41, 40, 42, 13, 14, 15, 16, 17, 18, 19, 60, 21, 22, 23, 80, 81, 82, 83, 77, 78, 79] (by decide +kernel) (by decide +kernel)
set_option maxRecDepth 20000 in
theorem gX8_observe_X2_noteMiss : GoodIn wsX8_observe (wsV RX8 91 RX2 yX2_noteMiss wsX2_noteMiss) := goodIn_app (goodIn_of _ (by decide +kernel)) ggX8_observe_X2_noteMiss
theorem dX8_observe_0 : decode cX8_observe 0 = .ok (.iload_n 2, 1) := by decide +kernel
theorem dX8_observe_1 : decode cX8_observe 1 = .ok (.aload_n 0, 1) := by decide +kernel
theorem dX8_observe_2 : decode cX8_observe 2 = .ok (.getfield 43, 3) := by decide +kernel
theorem dX8_observe_5 : decode cX8_observe 5 = .ok (.if_icmp .le 7, 3) := by decide +kernel
theorem dX8_observe_8 : decode cX8_observe 8 = .ok (.iconst 1, 1) := by decide +kernel
theorem dX8_observe_9 : decode cX8_observe 9 = .ok (.goto 4, 3) := by decide +kernel
theorem dX8_observe_12 : decode cX8_observe 12 = .ok (.iconst 0, 1) := by decide +kernel
theorem dX8_observe_13 : decode cX8_observe 13 = .ok (.istore_n 3, 1) := by decide +kernel
theorem dX8_observe_14 : decode cX8_observe 14 = .ok (.aload_n 0, 1) := by decide +kernel
theorem dX8_observe_15 : decode cX8_observe 15 = .ok (.getfield 28, 3) := by decide +kernel
theorem dX8_observe_18 : decode cX8_observe 18 = .ok (.iload_n 1, 1) := by decide +kernel
theorem dX8_observe_19 : decode cX8_observe 19 = .ok (.iload_n 2, 1) := by decide +kernel
theorem dX8_observe_20 : decode cX8_observe 20 = .ok (.iload_n 3, 1) := by decide +kernel
theorem dX8_observe_21 : decode cX8_observe 21 = .ok (.invokevirtual 84, 3) := by decide +kernel
theorem dX8_observe_24 : decode cX8_observe 24 = .ok (.iload_n 3, 1) := by decide +kernel
theorem dX8_observe_25 : decode cX8_observe 25 = .ok (.ifCond .eq 19, 3) := by decide +kernel
theorem dX8_observe_28 : decode cX8_observe 28 = .ok (.aload_n 0, 1) := by decide +kernel
theorem dX8_observe_29 : decode cX8_observe 29 = .ok (.getfield 35, 3) := by decide +kernel
theorem dX8_observe_32 : decode cX8_observe 32 = .ok (.iload_n 1, 1) := by decide +kernel
theorem dX8_observe_33 : decode cX8_observe 33 = .ok (.aload_n 0, 1) := by decide +kernel
theorem dX8_observe_34 : decode cX8_observe 34 = .ok (.getfield 58, 3) := by decide +kernel
theorem dX8_observe_37 : decode cX8_observe 37 = .ok (.iload_n 2, 1) := by decide +kernel
theorem dX8_observe_38 : decode cX8_observe 38 = .ok (.invokevirtual 87, 3) := by decide +kernel
theorem dX8_observe_41 : decode cX8_observe 41 = .ok (.goto 11, 3) := by decide +kernel
theorem dX8_observe_44 : decode cX8_observe 44 = .ok (.aload_n 0, 1) := by decide +kernel
theorem dX8_observe_45 : decode cX8_observe 45 = .ok (.getfield 35, 3) := by decide +kernel
theorem dX8_observe_48 : decode cX8_observe 48 = .ok (.iload_n 1, 1) := by decide +kernel
theorem dX8_observe_49 : decode cX8_observe 49 = .ok (.invokevirtual 91, 3) := by decide +kernel
theorem dX8_observe_52 : decode cX8_observe 52 = .ok (.return_, 1) := by decide +kernel
set_option maxRecDepth 20000 in
theorem ggX8_copyFrom_X7_copyFrom : GoodIn wsX8_copyFrom wsX7_copyFrom := goodIn_r _ [14, 15, 16, 17, 18, 19, 20, 21, 22, 23, 24, 25, 26, 27, 28, 29, 30, 71, 72, 73, 74, 75] (by decide +kernel) (by decide +kernel)
set_option maxRecDepth 20000 in
theorem gX8_copyFrom_X7_copyFrom : GoodIn wsX8_copyFrom (wsV RX8 95 RX7 yX7_copyFrom wsX7_copyFrom) := goodIn_app (goodIn_of _ (by decide +kernel)) ggX8_copyFrom_X7_copyFrom
set_option maxRecDepth 20000 in
theorem ggX8_copyFrom_X5_copyFrom : GoodIn wsX8_copyFrom wsX5_copyFrom := goodIn_r _ [35, 36, 37, 38, 39, 40, 18, 19, 20, 21, 22, 23, 24, 25, 26, 27, 28, 29, 30, 76, 77, 78, 79, 73, 74, 75] (by decide +kernel) (by decide +kernel)
set_option maxRecDepth 20000 in
theorem gX8_copyFrom_X5_copyFrom : GoodIn wsX8_copyFrom (wsV RX8 99 RX5 yX5_copyFrom wsX5_copyFrom) := goodIn_app (goodIn_of _ (by decide +kernel)) ggX8_copyFrom_X5_copyFrom
set_option maxRecDepth 20000 in
theorem ggX8_copyFrom_X1_copyFrom : GoodIn wsX8_copyFrom wsX1_copyFrom := goodIn_r _ [45, 46, 47, 48, 49, 18, 19, 20, 21, 22, 23, 24, 25, 26, 27, 28, 29, 30, 80, 81, 82, 73, 74, 75] (by decide +kernel) (by decide +kernel)
set_option maxRecDepth 20000 in
theorem gX8_copyFrom_X1_copyFrom : GoodIn wsX8_copyFrom (wsV RX8 102 RX1 yX1_copyFrom wsX1_copyFrom) := goodIn_app (goodIn_of _ (by decide +kernel)) ggX8_copyFrom_X1_copyFrom
set_option maxRecDepth 20000 in
theorem ggX8_copyFrom_X2_copyFrom : GoodIn wsX8_copyFrom wsX2_copyFrom := goodIn_r _ [54, 55, 56, 57, 24, 25, 26, 58, 28, 29, 30, 59, 60, 61, 18, 19, 20, 21, 22, 23, 27, 83, 84, 85, 86, 73, 74, 75] (by decide +kernel) (by decide +kernel)
set_option maxRecDepth 20000 in
theorem gX8_copyFrom_X2_copyFrom : GoodIn wsX8_copyFrom (wsV RX8 105 RX2 yX2_copyFrom wsX2_copyFrom) := goodIn_app (goodIn_of _ (by decide +kernel)) ggX8_copyFrom_X2_copyFrom
theorem dX8_copyFrom_0 : decode cX8_copyFrom 0 = .ok (.aload_n 0, 1) := by decide +kernel
theorem dX8_copyFrom_1 : decode cX8_copyFrom 1 = .ok (.getfield 12, 3) := by decide +kernel
theorem dX8_copyFrom_4 : decode cX8_copyFrom 4 = .ok (.aload_n 1, 1) := by decide +kernel
theorem dX8_copyFrom_5 : decode cX8_copyFrom 5 = .ok (.getfield 12, 3) := by decide +kernel
theorem dX8_copyFrom_8 : decode cX8_copyFrom 8 = .ok (.invokevirtual 95, 3) := by decide +kernel
theorem dX8_copyFrom_11 : decode cX8_copyFrom 11 = .ok (.aload_n 0, 1) := by decide +kernel
theorem dX8_copyFrom_12 : decode cX8_copyFrom 12 = .ok (.getfield 21, 3) := by decide +kernel
theorem dX8_copyFrom_15 : decode cX8_copyFrom 15 = .ok (.aload_n 1, 1) := by decide +kernel
theorem dX8_copyFrom_16 : decode cX8_copyFrom 16 = .ok (.getfield 21, 3) := by decide +kernel
theorem dX8_copyFrom_19 : decode cX8_copyFrom 19 = .ok (.invokevirtual 99, 3) := by decide +kernel
theorem dX8_copyFrom_22 : decode cX8_copyFrom 22 = .ok (.aload_n 0, 1) := by decide +kernel
theorem dX8_copyFrom_23 : decode cX8_copyFrom 23 = .ok (.getfield 28, 3) := by decide +kernel
theorem dX8_copyFrom_26 : decode cX8_copyFrom 26 = .ok (.aload_n 1, 1) := by decide +kernel
theorem dX8_copyFrom_27 : decode cX8_copyFrom 27 = .ok (.getfield 28, 3) := by decide +kernel
theorem dX8_copyFrom_30 : decode cX8_copyFrom 30 = .ok (.invokevirtual 102, 3) := by decide +kernel
theorem dX8_copyFrom_33 : decode cX8_copyFrom 33 = .ok (.aload_n 0, 1) := by decide +kernel
theorem dX8_copyFrom_34 : decode cX8_copyFrom 34 = .ok (.getfield 35, 3) := by decide +kernel
theorem dX8_copyFrom_37 : decode cX8_copyFrom 37 = .ok (.aload_n 1, 1) := by decide +kernel
theorem dX8_copyFrom_38 : decode cX8_copyFrom 38 = .ok (.getfield 35, 3) := by decide +kernel
theorem dX8_copyFrom_41 : decode cX8_copyFrom 41 = .ok (.invokevirtual 105, 3) := by decide +kernel
theorem dX8_copyFrom_44 : decode cX8_copyFrom 44 = .ok (.aload_n 0, 1) := by decide +kernel
theorem dX8_copyFrom_45 : decode cX8_copyFrom 45 = .ok (.aload_n 1, 1) := by decide +kernel
theorem dX8_copyFrom_46 : decode cX8_copyFrom 46 = .ok (.getfield 58, 3) := by decide +kernel
theorem dX8_copyFrom_49 : decode cX8_copyFrom 49 = .ok (.putfield 58, 3) := by decide +kernel
theorem dX8_copyFrom_52 : decode cX8_copyFrom 52 = .ok (.aload_n 0, 1) := by decide +kernel
theorem dX8_copyFrom_53 : decode cX8_copyFrom 53 = .ok (.aload_n 1, 1) := by decide +kernel
theorem dX8_copyFrom_54 : decode cX8_copyFrom 54 = .ok (.getfield 39, 3) := by decide +kernel
theorem dX8_copyFrom_57 : decode cX8_copyFrom 57 = .ok (.putfield 39, 3) := by decide +kernel
theorem dX8_copyFrom_60 : decode cX8_copyFrom 60 = .ok (.aload_n 0, 1) := by decide +kernel
theorem dX8_copyFrom_61 : decode cX8_copyFrom 61 = .ok (.aload_n 1, 1) := by decide +kernel
theorem dX8_copyFrom_62 : decode cX8_copyFrom 62 = .ok (.getfield 43, 3) := by decide +kernel
theorem dX8_copyFrom_65 : decode cX8_copyFrom 65 = .ok (.putfield 43, 3) := by decide +kernel
theorem dX8_copyFrom_68 : decode cX8_copyFrom 68 = .ok (.aload_n 0, 1) := by decide +kernel
theorem dX8_copyFrom_69 : decode cX8_copyFrom 69 = .ok (.aload_n 1, 1) := by decide +kernel
theorem dX8_copyFrom_70 : decode cX8_copyFrom 70 = .ok (.getfield 46, 3) := by decide +kernel
theorem dX8_copyFrom_73 : decode cX8_copyFrom 73 = .ok (.putfield 46, 3) := by decide +kernel
theorem dX8_copyFrom_76 : decode cX8_copyFrom 76 = .ok (.aload_n 0, 1) := by decide +kernel
theorem dX8_copyFrom_77 : decode cX8_copyFrom 77 = .ok (.aload_n 1, 1) := by decide +kernel
theorem dX8_copyFrom_78 : decode cX8_copyFrom 78 = .ok (.getfield 49, 3) := by decide +kernel
theorem dX8_copyFrom_81 : decode cX8_copyFrom 81 = .ok (.putfield 49, 3) := by decide +kernel
theorem dX8_copyFrom_84 : decode cX8_copyFrom 84 = .ok (.return_, 1) := by decide +kernel
theorem dX9_init_0 : decode cX9_init 0 = .ok (.aload_n 0, 1) := by decide +kernel
theorem dX9_init_1 : decode cX9_init 1 = .ok (.invokespecial 3, 3) := by decide +kernel
theorem dX9_init_4 : decode cX9_init 4 = .ok (.aload_n 0, 1) := by decide +kernel
theorem dX9_init_5 : decode cX9_init 5 = .ok (.iload_n 1, 1) := by decide +kernel
theorem dX9_init_6 : decode cX9_init 6 = .ok (.putfield 9, 3) := by decide +kernel
theorem dX9_init_9 : decode cX9_init 9 = .ok (.aload_n 0, 1) := by decide +kernel
theorem dX9_init_10 : decode cX9_init 10 = .ok (.iload_n 2, 1) := by decide +kernel
theorem dX9_init_11 : decode cX9_init 11 = .ok (.putfield 15, 3) := by decide +kernel
theorem dX9_init_14 : decode cX9_init 14 = .ok (.aload_n 0, 1) := by decide +kernel
theorem dX9_init_15 : decode cX9_init 15 = .ok (.iconst 0, 1) := by decide +kernel
theorem dX9_init_16 : decode cX9_init 16 = .ok (.iload_n 1, 1) := by decide +kernel
theorem dX9_init_17 : decode cX9_init 17 = .ok (.iload_n 2, 1) := by decide +kernel
theorem dX9_init_18 : decode cX9_init 18 = .ok (.imul, 1) := by decide +kernel
theorem dX9_init_19 : decode cX9_init 19 = .ok (.invokestatic 18, 3) := by decide +kernel
theorem dX9_init_22 : decode cX9_init 22 = .ok (.newarray .int, 2) := by decide +kernel
theorem dX9_init_24 : decode cX9_init 24 = .ok (.putfield 24, 3) := by decide +kernel
theorem dX9_init_27 : decode cX9_init 27 = .ok (.return_, 1) := by decide +kernel
theorem dX9_get_0 : decode cX9_get 0 = .ok (.iload_n 1, 1) := by decide +kernel
theorem dX9_get_1 : decode cX9_get 1 = .ok (.ifCond .lt 23, 3) := by decide +kernel
theorem dX9_get_4 : decode cX9_get 4 = .ok (.iload_n 1, 1) := by decide +kernel
theorem dX9_get_5 : decode cX9_get 5 = .ok (.aload_n 0, 1) := by decide +kernel
theorem dX9_get_6 : decode cX9_get 6 = .ok (.getfield 9, 3) := by decide +kernel
theorem dX9_get_9 : decode cX9_get 9 = .ok (.if_icmp .ge 15, 3) := by decide +kernel
theorem dX9_get_12 : decode cX9_get 12 = .ok (.iload_n 2, 1) := by decide +kernel
theorem dX9_get_13 : decode cX9_get 13 = .ok (.ifCond .lt 11, 3) := by decide +kernel
theorem dX9_get_16 : decode cX9_get 16 = .ok (.iload_n 2, 1) := by decide +kernel
theorem dX9_get_17 : decode cX9_get 17 = .ok (.aload_n 0, 1) := by decide +kernel
theorem dX9_get_18 : decode cX9_get 18 = .ok (.getfield 15, 3) := by decide +kernel
theorem dX9_get_21 : decode cX9_get 21 = .ok (.if_icmp .lt 5, 3) := by decide +kernel
theorem dX9_get_24 : decode cX9_get 24 = .ok (.iconst (-1), 1) := by decide +kernel
theorem dX9_get_25 : decode cX9_get 25 = .ok (.ireturn, 1) := by decide +kernel
theorem dX9_get_26 : decode cX9_get 26 = .ok (.aload_n 0, 1) := by decide +kernel
theorem dX9_get_27 : decode cX9_get 27 = .ok (.getfield 24, 3) := by decide +kernel
theorem dX9_get_30 : decode cX9_get 30 = .ok (.iload_n 1, 1) := by decide +kernel
theorem dX9_get_31 : decode cX9_get 31 = .ok (.aload_n 0, 1) := by decide +kernel
theorem dX9_get_32 : decode cX9_get 32 = .ok (.getfield 15, 3) := by decide +kernel
theorem dX9_get_35 : decode cX9_get 35 = .ok (.imul, 1) := by decide +kernel
theorem dX9_get_36 : decode cX9_get 36 = .ok (.iload_n 2, 1) := by decide +kernel
theorem dX9_get_37 : decode cX9_get 37 = .ok (.iadd, 1) := by decide +kernel
theorem dX9_get_38 : decode cX9_get 38 = .ok (.iaload, 1) := by decide +kernel
theorem dX9_get_39 : decode cX9_get 39 = .ok (.ireturn, 1) := by decide +kernel
theorem dX9_set_0 : decode cX9_set 0 = .ok (.iload_n 1, 1) := by decide +kernel
theorem dX9_set_1 : decode cX9_set 1 = .ok (.ifCond .lt 23, 3) := by decide +kernel
theorem dX9_set_4 : decode cX9_set 4 = .ok (.iload_n 1, 1) := by decide +kernel
theorem dX9_set_5 : decode cX9_set 5 = .ok (.aload_n 0, 1) := by decide +kernel
theorem dX9_set_6 : decode cX9_set 6 = .ok (.getfield 9, 3) := by decide +kernel
theorem dX9_set_9 : decode cX9_set 9 = .ok (.if_icmp .ge 15, 3) := by decide +kernel
theorem dX9_set_12 : decode cX9_set 12 = .ok (.iload_n 2, 1) := by decide +kernel
theorem dX9_set_13 : decode cX9_set 13 = .ok (.ifCond .lt 11, 3) := by decide +kernel
theorem dX9_set_16 : decode cX9_set 16 = .ok (.iload_n 2, 1) := by decide +kernel
theorem dX9_set_17 : decode cX9_set 17 = .ok (.aload_n 0, 1) := by decide +kernel
theorem dX9_set_18 : decode cX9_set 18 = .ok (.getfield 15, 3) := by decide +kernel
theorem dX9_set_21 : decode cX9_set 21 = .ok (.if_icmp .lt 4, 3) := by decide +kernel
theorem dX9_set_24 : decode cX9_set 24 = .ok (.return_, 1) := by decide +kernel
theorem dX9_set_25 : decode cX9_set 25 = .ok (.aload_n 0, 1) := by decide +kernel
theorem dX9_set_26 : decode cX9_set 26 = .ok (.getfield 24, 3) := by decide +kernel
theorem dX9_set_29 : decode cX9_set 29 = .ok (.iload_n 1, 1) := by decide +kernel
theorem dX9_set_30 : decode cX9_set 30 = .ok (.aload_n 0, 1) := by decide +kernel
theorem dX9_set_31 : decode cX9_set 31 = .ok (.getfield 15, 3) := by decide +kernel
theorem dX9_set_34 : decode cX9_set 34 = .ok (.imul, 1) := by decide +kernel
theorem dX9_set_35 : decode cX9_set 35 = .ok (.iload_n 2, 1) := by decide +kernel
theorem dX9_set_36 : decode cX9_set 36 = .ok (.iadd, 1) := by decide +kernel
theorem dX9_set_37 : decode cX9_set 37 = .ok (.iload_n 3, 1) := by decide +kernel
theorem dX9_set_38 : decode cX9_set 38 = .ok (.iastore, 1) := by decide +kernel
theorem dX9_set_39 : decode cX9_set 39 = .ok (.return_, 1) := by decide +kernel
set_option maxRecDepth 20000 in
theorem ggX9_increase_X9_get : GoodIn wsX9_increase wsX9_get := goodIn_r _ [5, 6, 7, 8, 13, 14, 15] (by decide +kernel) (by decide +kernel)
set_option maxRecDepth 20000 in
theorem gX9_increase_X9_get : GoodIn wsX9_increase (wsV RX9 28 RX9 yX9_get wsX9_get) := goodIn_app (goodIn_of _ (by decide +kernel)) ggX9_increase_X9_get
set_option maxRecDepth 20000 in
theorem ggX9_increase_X9_set : GoodIn wsX9_increase wsX9_set := goodIn_r _ [12, 6, 7, 8, 13, 14, 15] (by decide +kernel) (by decide +kernel)
set_option maxRecDepth 20000 in
theorem gX9_increase_X9_set : GoodIn wsX9_increase (wsV RX9 31 RX9 yX9_set wsX9_set) := goodIn_app (goodIn_of _ (by decide +kernel)) ggX9_increase_X9_set
theorem dX9_increase_0 : decode cX9_increase 0 = .ok (.aload_n 0, 1) := by decide +kernel
theorem dX9_increase_1 : decode cX9_increase 1 = .ok (.iload_n 1, 1) := by decide +kernel
theorem dX9_increase_2 : decode cX9_increase 2 = .ok (.iload_n 2, 1) := by decide +kernel
theorem dX9_increase_3 : decode cX9_increase 3 = .ok (.aload_n 0, 1) := by decide +kernel
theorem dX9_increase_4 : decode cX9_increase 4 = .ok (.iload_n 1, 1) := by decide +kernel
theorem dX9_increase_5 : decode cX9_increase 5 = .ok (.iload_n 2, 1) := by decide +kernel
theorem dX9_increase_6 : decode cX9_increase 6 = .ok (.invokevirtual 28, 3) := by decide +kernel
theorem dX9_increase_9 : decode cX9_increase 9 = .ok (.iconst 1, 1) := by decide +kernel
theorem dX9_increase_10 : decode cX9_increase 10 = .ok (.iadd, 1) := by decide +kernel
theorem dX9_increase_11 : decode cX9_increase 11 = .ok (.invokevirtual 31, 3) := by decide +kernel
