theorem dX11_clears_47 : decode cX11_clears 47 = .ok (.iastore, 1) := by decide +kernel
theorem dX11_clears_48 : decode cX11_clears 48 = .ok (.return_, 1) := by decide +kernel
set_option maxRecDepth 20000 in
theorem ggX11_detector_X11_isChannel : GoodIn wsX11_detector wsX11_isChannel := goodIn_r _ [6, 7, 8, 9, 5, 10] (by decide +kernel) (by decide +kernel)
set_option maxRecDepth 20000 in
theorem gX11_detector_X11_isChannel : GoodIn wsX11_detector (va_wsS RX11 45 yX11_isChannel wsX11_isChannel) := goodIn_app (goodIn_of _ (by decide +kernel)) ggX11_detector_X11_isChannel
set_option maxRecDepth 20000 in
theorem ggX11_detector_X11_in : GoodIn wsX11_detector wsX11_in := goodIn_r _ [10] (by decide +kernel) (by decide +kernel)
set_option maxRecDepth 20000 in
theorem gX11_detector_X11_in : GoodIn wsX11_detector (va_wsS RX11 37 yX11_in wsX11_in) := goodIn_app (goodIn_of _ (by decide +kernel)) ggX11_detector_X11_in
set_option maxRecDepth 20000 in
theorem ggX11_detector_X11_goes : GoodIn wsX11_detector wsX11_goes := goodIn_r _ [14, 15, 16, 17, 18, 19, 20, 21, 22, 23, 24, 25, 26, 27, 28, 29] (by decide +kernel) (by decide +kernel)
set_option maxRecDepth 20000 in
theorem gX11_detector_X11_goes : GoodIn wsX11_detector (wsV RX11 57 RX11 yX11_goes wsX11_goes) := goodIn_app (goodIn_of _ (by decide +kernel)) ggX11_detector_X11_goes
theorem dX11_detector_0 : decode cX11_detector 0 = .ok (.aload_n 0, 1) := by decide +kernel
theorem dX11_detector_1 : decode cX11_detector 1 = .ok (.iload_n 1, 1) := by decide +kernel
theorem dX11_detector_2 : decode cX11_detector 2 = .ok (.invokestatic 45, 3) := by decide +kernel
theorem dX11_detector_5 : decode cX11_detector 5 = .ok (.iload_n 2, 1) := by decide +kernel
theorem dX11_detector_6 : decode cX11_detector 6 = .ok (.i2l, 1) := by decide +kernel
theorem dX11_detector_7 : decode cX11_detector 7 = .ok (.lconst 0, 1) := by decide +kernel
theorem dX11_detector_8 : decode cX11_detector 8 = .ok (.ldc2_w 154, 3) := by decide +kernel
theorem dX11_detector_11 : decode cX11_detector 11 = .ok (.invokestatic 37, 3) := by decide +kernel
theorem dX11_detector_14 : decode cX11_detector 14 = .ok (.invokevirtual 57, 3) := by decide +kernel
theorem dX11_detector_17 : decode cX11_detector 17 = .ok (.ifCond .eq 21, 3) := by decide +kernel
theorem dX11_detector_20 : decode cX11_detector 20 = .ok (.aload_n 0, 1) := by decide +kernel
theorem dX11_detector_21 : decode cX11_detector 21 = .ok (.getfield 7, 3) := by decide +kernel
theorem dX11_detector_24 : decode cX11_detector 24 = .ok (.sipush 138, 3) := by decide +kernel
theorem dX11_detector_27 : decode cX11_detector 27 = .ok (.bipush 13, 2) := by decide +kernel
theorem dX11_detector_29 : decode cX11_detector 29 = .ok (.iload_n 1, 1) := by decide +kernel
theorem dX11_detector_30 : decode cX11_detector 30 = .ok (.imul, 1) := by decide +kernel
theorem dX11_detector_31 : decode cX11_detector 31 = .ok (.iadd, 1) := by decide +kernel
theorem dX11_detector_32 : decode cX11_detector 32 = .ok (.iload_n 2, 1) := by decide +kernel
theorem dX11_detector_33 : decode cX11_detector 33 = .ok (.iadd, 1) := by decide +kernel
theorem dX11_detector_34 : decode cX11_detector 34 = .ok (.iaload, 1) := by decide +kernel
theorem dX11_detector_35 : decode cX11_detector 35 = .ok (.goto 4, 3) := by decide +kernel
theorem dX11_detector_38 : decode cX11_detector 38 = .ok (.iconst 0, 1) := by decide +kernel
theorem dX11_detector_39 : decode cX11_detector 39 = .ok (.ireturn, 1) := by decide +kernel
theorem dX11_averageOf_0 : decode cX11_averageOf 0 = .ok (.sipush 138, 3) := by decide +kernel
theorem dX11_averageOf_3 : decode cX11_averageOf 3 = .ok (.bipush 13, 2) := by decide +kernel
theorem dX11_averageOf_5 : decode cX11_averageOf 5 = .ok (.iload_n 1, 1) := by decide +kernel
theorem dX11_averageOf_6 : decode cX11_averageOf 6 = .ok (.imul, 1) := by decide +kernel
theorem dX11_averageOf_7 : decode cX11_averageOf 7 = .ok (.iadd, 1) := by decide +kernel
theorem dX11_averageOf_8 : decode cX11_averageOf 8 = .ok (.istore_n 2, 1) := by decide +kernel
theorem dX11_averageOf_9 : decode cX11_averageOf 9 = .ok (.iconst 0, 1) := by decide +kernel
theorem dX11_averageOf_10 : decode cX11_averageOf 10 = .ok (.istore_n 3, 1) := by decide +kernel
theorem dX11_averageOf_11 : decode cX11_averageOf 11 = .ok (.iconst 0, 1) := by decide +kernel
theorem dX11_averageOf_12 : decode cX11_averageOf 12 = .ok (.istore 4, 2) := by decide +kernel
theorem dX11_averageOf_14 : decode cX11_averageOf 14 = .ok (.iload 4, 2) := by decide +kernel
theorem dX11_averageOf_16 : decode cX11_averageOf 16 = .ok (.aload_n 0, 1) := by decide +kernel
theorem dX11_averageOf_17 : decode cX11_averageOf 17 = .ok (.getfield 7, 3) := by decide +kernel
theorem dX11_averageOf_20 : decode cX11_averageOf 20 = .ok (.iload_n 2, 1) := by decide +kernel
theorem dX11_averageOf_21 : decode cX11_averageOf 21 = .ok (.iconst 4, 1) := by decide +kernel
theorem dX11_averageOf_22 : decode cX11_averageOf 22 = .ok (.iadd, 1) := by decide +kernel
theorem dX11_averageOf_23 : decode cX11_averageOf 23 = .ok (.iaload, 1) := by decide +kernel
theorem dX11_averageOf_24 : decode cX11_averageOf 24 = .ok (.if_icmp .ge 23, 3) := by decide +kernel
theorem dX11_averageOf_27 : decode cX11_averageOf 27 = .ok (.iload_n 3, 1) := by decide +kernel
theorem dX11_averageOf_28 : decode cX11_averageOf 28 = .ok (.aload_n 0, 1) := by decide +kernel
theorem dX11_averageOf_29 : decode cX11_averageOf 29 = .ok (.getfield 7, 3) := by decide +kernel
theorem dX11_averageOf_32 : decode cX11_averageOf 32 = .ok (.iload_n 2, 1) := by decide +kernel
theorem dX11_averageOf_33 : decode cX11_averageOf 33 = .ok (.iconst 5, 1) := by decide +kernel
theorem dX11_averageOf_34 : decode cX11_averageOf 34 = .ok (.iadd, 1) := by decide +kernel
theorem dX11_averageOf_35 : decode cX11_averageOf 35 = .ok (.iload 4, 2) := by decide +kernel
theorem dX11_averageOf_37 : decode cX11_averageOf 37 = .ok (.iadd, 1) := by decide +kernel
theorem dX11_averageOf_38 : decode cX11_averageOf 38 = .ok (.iaload, 1) := by decide +kernel
theorem dX11_averageOf_39 : decode cX11_averageOf 39 = .ok (.iadd, 1) := by decide +kernel
theorem dX11_averageOf_40 : decode cX11_averageOf 40 = .ok (.istore_n 3, 1) := by decide +kernel
theorem dX11_averageOf_41 : decode cX11_averageOf 41 = .ok (.iinc 4 1, 3) := by decide +kernel
theorem dX11_averageOf_44 : decode cX11_averageOf 44 = .ok (.goto (-30), 3) := by decide +kernel
theorem dX11_averageOf_47 : decode cX11_averageOf 47 = .ok (.aload_n 0, 1) := by decide +kernel
theorem dX11_averageOf_48 : decode cX11_averageOf 48 = .ok (.getfield 7, 3) := by decide +kernel
theorem dX11_averageOf_51 : decode cX11_averageOf 51 = .ok (.iload_n 2, 1) := by decide +kernel
theorem dX11_averageOf_52 : decode cX11_averageOf 52 = .ok (.iconst 4, 1) := by decide +kernel
theorem dX11_averageOf_53 : decode cX11_averageOf 53 = .ok (.iadd, 1) := by decide +kernel
theorem dX11_averageOf_54 : decode cX11_averageOf 54 = .ok (.iaload, 1) := by decide +kernel
theorem dX11_averageOf_55 : decode cX11_averageOf 55 = .ok (.ifCond .ne 7, 3) := by decide +kernel
theorem dX11_averageOf_58 : decode cX11_averageOf 58 = .ok (.iconst (-1), 1) := by decide +kernel
theorem dX11_averageOf_59 : decode cX11_averageOf 59 = .ok (.goto 13, 3) := by decide +kernel
theorem dX11_averageOf_62 : decode cX11_averageOf 62 = .ok (.iload_n 3, 1) := by decide +kernel
theorem dX11_averageOf_63 : decode cX11_averageOf 63 = .ok (.aload_n 0, 1) := by decide +kernel
theorem dX11_averageOf_64 : decode cX11_averageOf 64 = .ok (.getfield 7, 3) := by decide +kernel
theorem dX11_averageOf_67 : decode cX11_averageOf 67 = .ok (.iload_n 2, 1) := by decide +kernel
theorem dX11_averageOf_68 : decode cX11_averageOf 68 = .ok (.iconst 4, 1) := by decide +kernel
theorem dX11_averageOf_69 : decode cX11_averageOf 69 = .ok (.iadd, 1) := by decide +kernel
theorem dX11_averageOf_70 : decode cX11_averageOf 70 = .ok (.iaload, 1) := by decide +kernel
theorem dX11_averageOf_71 : decode cX11_averageOf 71 = .ok (.idiv, 1) := by decide +kernel
theorem dX11_averageOf_72 : decode cX11_averageOf 72 = .ok (.ireturn, 1) := by decide +kernel
set_option maxRecDepth 20000 in
theorem ggX11_average_X11_isChannel : GoodIn wsX11_average wsX11_isChannel := goodIn_r _ [4, 5, 6, 7, 3, 8] (by decide +kernel) (by decide +kernel)
set_option maxRecDepth 20000 in
theorem gX11_average_X11_isChannel : GoodIn wsX11_average (va_wsS RX11 45 yX11_isChannel wsX11_isChannel) := goodIn_app (goodIn_of _ (by decide +kernel)) ggX11_average_X11_isChannel
set_option maxRecDepth 20000 in
theorem ggX11_average_X11_goes : GoodIn wsX11_average wsX11_goes := goodIn_r _ [12, 13, 19, 20, 21, 22, 23, 24, 25, 26, 27, 28, 29, 30, 31, 32] (by decide +kernel) (by decide +kernel)
set_option maxRecDepth 20000 in
theorem gX11_average_X11_goes : GoodIn wsX11_average (wsV RX11 57 RX11 yX11_goes wsX11_goes) := goodIn_app (goodIn_of _ (by decide +kernel)) ggX11_average_X11_goes
set_option maxRecDepth 20000 in
theorem ggX11_average_X11_averageOf : GoodIn wsX11_average wsX11_averageOf := goodIn_r _ [17, 18, 19, 20, 21, 22, 23, 24, 25, 26, 27, 28, 29, 30, 31, 32] (by decide +kernel) (by decide +kernel)
set_option maxRecDepth 20000 in
theorem gX11_average_X11_averageOf : GoodIn wsX11_average (wsV RX11 156 RX11 yX11_averageOf wsX11_averageOf) := goodIn_app (goodIn_of _ (by decide +kernel)) ggX11_average_X11_averageOf
theorem dX11_average_0 : decode cX11_average 0 = .ok (.aload_n 0, 1) := by decide +kernel
theorem dX11_average_1 : decode cX11_average 1 = .ok (.iload_n 1, 1) := by decide +kernel
theorem dX11_average_2 : decode cX11_average 2 = .ok (.invokestatic 45, 3) := by decide +kernel
theorem dX11_average_5 : decode cX11_average 5 = .ok (.iconst 1, 1) := by decide +kernel
theorem dX11_average_6 : decode cX11_average 6 = .ok (.invokevirtual 57, 3) := by decide +kernel
theorem dX11_average_9 : decode cX11_average 9 = .ok (.ifCond .eq 11, 3) := by decide +kernel
theorem dX11_average_12 : decode cX11_average 12 = .ok (.aload_n 0, 1) := by decide +kernel
theorem dX11_average_13 : decode cX11_average 13 = .ok (.iload_n 1, 1) := by decide +kernel
theorem dX11_average_14 : decode cX11_average 14 = .ok (.invokevirtual 156, 3) := by decide +kernel
theorem dX11_average_17 : decode cX11_average 17 = .ok (.goto 4, 3) := by decide +kernel
theorem dX11_average_20 : decode cX11_average 20 = .ok (.iconst 0, 1) := by decide +kernel
theorem dX11_average_21 : decode cX11_average 21 = .ok (.ireturn, 1) := by decide +kernel
set_option maxRecDepth 20000 in
theorem ggX11_occupancy_X11_isChannel : GoodIn wsX11_occupancy wsX11_isChannel := goodIn_r _ [5, 6, 7, 8, 4, 9] (by decide +kernel) (by decide +kernel)
set_option maxRecDepth 20000 in
theorem gX11_occupancy_X11_isChannel : GoodIn wsX11_occupancy (va_wsS RX11 45 yX11_isChannel wsX11_isChannel) := goodIn_app (goodIn_of _ (by decide +kernel)) ggX11_occupancy_X11_isChannel
set_option maxRecDepth 20000 in
theorem ggX11_occupancy_X11_goes : GoodIn wsX11_occupancy wsX11_goes := goodIn_r _ [13, 14, 15, 16, 17, 18, 19, 20, 21, 22, 23, 24, 25, 26, 27, 28] (by decide +kernel) (by decide +kernel)
set_option maxRecDepth 20000 in
theorem gX11_occupancy_X11_goes : GoodIn wsX11_occupancy (wsV RX11 57 RX11 yX11_goes wsX11_goes) := goodIn_app (goodIn_of _ (by decide +kernel)) ggX11_occupancy_X11_goes
theorem dX11_occupancy_0 : decode cX11_occupancy 0 = .ok (.aload_n 0, 1) := by decide +kernel
theorem dX11_occupancy_1 : decode cX11_occupancy 1 = .ok (.iload_n 1, 1) := by decide +kernel
theorem dX11_occupancy_2 : decode cX11_occupancy 2 = .ok (.invokestatic 45, 3) := by decide +kernel
theorem dX11_occupancy_5 : decode cX11_occupancy 5 = .ok (.iconst 1, 1) := by decide +kernel
theorem dX11_occupancy_6 : decode cX11_occupancy 6 = .ok (.invokevirtual 57, 3) := by decide +kernel
theorem dX11_occupancy_9 : decode cX11_occupancy 9 = .ok (.ifCond .eq 19, 3) := by decide +kernel
theorem dX11_occupancy_12 : decode cX11_occupancy 12 = .ok (.aload_n 0, 1) := by decide +kernel
theorem dX11_occupancy_13 : decode cX11_occupancy 13 = .ok (.getfield 7, 3) := by decide +kernel
theorem dX11_occupancy_16 : decode cX11_occupancy 16 = .ok (.sipush 138, 3) := by decide +kernel
theorem dX11_occupancy_19 : decode cX11_occupancy 19 = .ok (.bipush 13, 2) := by decide +kernel
theorem dX11_occupancy_21 : decode cX11_occupancy 21 = .ok (.iload_n 1, 1) := by decide +kernel
theorem dX11_occupancy_22 : decode cX11_occupancy 22 = .ok (.imul, 1) := by decide +kernel
theorem dX11_occupancy_23 : decode cX11_occupancy 23 = .ok (.iadd, 1) := by decide +kernel
theorem dX11_occupancy_24 : decode cX11_occupancy 24 = .ok (.iaload, 1) := by decide +kernel
theorem dX11_occupancy_25 : decode cX11_occupancy 25 = .ok (.ifCond .ne 5, 3) := by decide +kernel
theorem dX11_occupancy_28 : decode cX11_occupancy 28 = .ok (.dconst 0, 1) := by decide +kernel
theorem dX11_occupancy_29 : decode cX11_occupancy 29 = .ok (.dreturn, 1) := by decide +kernel
theorem dX11_occupancy_30 : decode cX11_occupancy 30 = .ok (.aload_n 0, 1) := by decide +kernel
theorem dX11_occupancy_31 : decode cX11_occupancy 31 = .ok (.getfield 7, 3) := by decide +kernel
theorem dX11_occupancy_34 : decode cX11_occupancy 34 = .ok (.sipush 138, 3) := by decide +kernel
theorem dX11_occupancy_37 : decode cX11_occupancy 37 = .ok (.bipush 13, 2) := by decide +kernel
theorem dX11_occupancy_39 : decode cX11_occupancy 39 = .ok (.iload_n 1, 1) := by decide +kernel
theorem dX11_occupancy_40 : decode cX11_occupancy 40 = .ok (.imul, 1) := by decide +kernel
theorem dX11_occupancy_41 : decode cX11_occupancy 41 = .ok (.iadd, 1) := by decide +kernel
theorem dX11_occupancy_42 : decode cX11_occupancy 42 = .ok (.iconst 1, 1) := by decide +kernel
theorem dX11_occupancy_43 : decode cX11_occupancy 43 = .ok (.iadd, 1) := by decide +kernel
theorem dX11_occupancy_44 : decode cX11_occupancy 44 = .ok (.iaload, 1) := by decide +kernel
theorem dX11_occupancy_45 : decode cX11_occupancy 45 = .ok (.i2d, 1) := by decide +kernel
theorem dX11_occupancy_46 : decode cX11_occupancy 46 = .ok (.dstore_n 2, 1) := by decide +kernel
theorem dX11_occupancy_47 : decode cX11_occupancy 47 = .ok (.aload_n 0, 1) := by decide +kernel
theorem dX11_occupancy_48 : decode cX11_occupancy 48 = .ok (.getfield 7, 3) := by decide +kernel
theorem dX11_occupancy_51 : decode cX11_occupancy 51 = .ok (.sipush 138, 3) := by decide +kernel
theorem dX11_occupancy_54 : decode cX11_occupancy 54 = .ok (.bipush 13, 2) := by decide +kernel
theorem dX11_occupancy_56 : decode cX11_occupancy 56 = .ok (.iload_n 1, 1) := by decide +kernel
theorem dX11_occupancy_57 : decode cX11_occupancy 57 = .ok (.imul, 1) := by decide +kernel
theorem dX11_occupancy_58 : decode cX11_occupancy 58 = .ok (.iadd, 1) := by decide +kernel
theorem dX11_occupancy_59 : decode cX11_occupancy 59 = .ok (.iaload, 1) := by decide +kernel
theorem dX11_occupancy_60 : decode cX11_occupancy 60 = .ok (.i2d, 1) := by decide +kernel
theorem dX11_occupancy_61 : decode cX11_occupancy 61 = .ok (.dstore 4, 2) := by decide +kernel
theorem dX11_occupancy_63 : decode cX11_occupancy 63 = .ok (.dload_n 2, 1) := by decide +kernel
theorem dX11_occupancy_64 : decode cX11_occupancy 64 = .ok (.dload 4, 2) := by decide +kernel
theorem dX11_occupancy_66 : decode cX11_occupancy 66 = .ok (.ddiv, 1) := by decide +kernel
theorem dX11_occupancy_67 : decode cX11_occupancy 67 = .ok (.dreturn, 1) := by decide +kernel
set_option maxRecDepth 20000 in
theorem ggX11_reset_X11_save : GoodIn wsX11_reset wsX11_save := goodIn_r _ [7, 8, 9, 2, 14, 15, 16, 17, 18, 19, 20, 21, 22, 23, 24, 25, 26, 27] (by decide +kernel) (by decide +kernel)
set_option maxRecDepth 20000 in
theorem gX11_reset_X11_save : GoodIn wsX11_reset (wsV RX11 61 RX11 yX11_save wsX11_save) := goodIn_app (goodIn_of _ (by decide +kernel)) ggX11_reset_X11_save
set_option maxRecDepth 20000 in
theorem ggX11_reset_X11_clears : GoodIn wsX11_reset wsX11_clears := goodIn_r _ [13, 2, 14, 15, 16, 17, 18, 19, 20, 21, 22, 23, 24, 25, 26, 27] (by decide +kernel) (by decide +kernel)
set_option maxRecDepth 20000 in
theorem gX11_reset_X11_clears : GoodIn wsX11_reset (wsV RX11 25 RX11 yX11_clears wsX11_clears) := goodIn_app (goodIn_of _ (by decide +kernel)) ggX11_reset_X11_clears
theorem dX11_reset_0 : decode cX11_reset 0 = .ok (.aload_n 0, 1) := by decide +kernel
theorem dX11_reset_1 : decode cX11_reset 1 = .ok (.iconst 0, 1) := by decide +kernel
theorem dX11_reset_2 : decode cX11_reset 2 = .ok (.putfield 28, 3) := by decide +kernel
theorem dX11_reset_5 : decode cX11_reset 5 = .ok (.aload_n 0, 1) := by decide +kernel
theorem dX11_reset_6 : decode cX11_reset 6 = .ok (.invokevirtual 61, 3) := by decide +kernel
theorem dX11_reset_9 : decode cX11_reset 9 = .ok (.aload_n 0, 1) := by decide +kernel
theorem dX11_reset_10 : decode cX11_reset 10 = .ok (.getfield 7, 3) := by decide +kernel
theorem dX11_reset_13 : decode cX11_reset 13 = .ok (.bipush 9, 2) := by decide +kernel
theorem dX11_reset_15 : decode cX11_reset 15 = .ok (.iaload, 1) := by decide +kernel
theorem dX11_reset_16 : decode cX11_reset 16 = .ok (.istore_n 1, 1) := by decide +kernel
theorem dX11_reset_17 : decode cX11_reset 17 = .ok (.aload_n 0, 1) := by decide +kernel
theorem dX11_reset_18 : decode cX11_reset 18 = .ok (.invokevirtual 25, 3) := by decide +kernel
theorem dX11_reset_21 : decode cX11_reset 21 = .ok (.iload_n 1, 1) := by decide +kernel
theorem dX11_reset_22 : decode cX11_reset 22 = .ok (.ireturn, 1) := by decide +kernel
theorem dX11_apart_0 : decode cX11_apart 0 = .ok (.iload_n 0, 1) := by decide +kernel
theorem dX11_apart_1 : decode cX11_apart 1 = .ok (.iload_n 1, 1) := by decide +kernel
theorem dX11_apart_2 : decode cX11_apart 2 = .ok (.if_icmp .le 9, 3) := by decide +kernel
theorem dX11_apart_5 : decode cX11_apart 5 = .ok (.iload_n 0, 1) := by decide +kernel
theorem dX11_apart_6 : decode cX11_apart 6 = .ok (.iload_n 1, 1) := by decide +kernel
theorem dX11_apart_7 : decode cX11_apart 7 = .ok (.isub, 1) := by decide +kernel
theorem dX11_apart_8 : decode cX11_apart 8 = .ok (.goto 6, 3) := by decide +kernel
theorem dX11_apart_11 : decode cX11_apart 11 = .ok (.iload_n 1, 1) := by decide +kernel
theorem dX11_apart_12 : decode cX11_apart 12 = .ok (.iload_n 0, 1) := by decide +kernel
theorem dX11_apart_13 : decode cX11_apart 13 = .ok (.isub, 1) := by decide +kernel
theorem dX11_apart_14 : decode cX11_apart 14 = .ok (.ireturn, 1) := by decide +kernel
set_option maxRecDepth 20000 in
theorem ggX11_laysChains_X11_eventAt : GoodIn wsX11_laysChains wsX11_eventAt := goodIn_r _ [6] (by decide +kernel) (by decide +kernel)
set_option maxRecDepth 20000 in
theorem gX11_laysChains_X11_eventAt : GoodIn wsX11_laysChains (va_wsS RX11 126 yX11_eventAt wsX11_eventAt) := goodIn_app (goodIn_of _ (by decide +kernel)) ggX11_laysChains_X11_eventAt
set_option maxRecDepth 20000 in
theorem ggX11_laysChains_X11_in : GoodIn wsX11_laysChains wsX11_in := goodIn_r _ [9] (by decide +kernel) (by decide +kernel)
set_option maxRecDepth 20000 in
theorem gX11_laysChains_X11_in : GoodIn wsX11_laysChains (va_wsS RX11 37 yX11_in wsX11_in) := goodIn_app (goodIn_of _ (by decide +kernel)) ggX11_laysChains_X11_in
set_option maxRecDepth 20000 in
theorem ggX11_laysChains_X11_apart : GoodIn wsX11_laysChains wsX11_apart := goodIn_r _ [12] (by decide +kernel) (by decide +kernel)
set_option maxRecDepth 20000 in
theorem gX11_laysChains_X11_apart : GoodIn wsX11_laysChains (va_wsS RX11 159 yX11_apart wsX11_apart) := goodIn_app (goodIn_of _ (by decide +kernel)) ggX11_laysChains_X11_apart
theorem dX11_laysChains_0 : decode cX11_laysChains 0 = .ok (.iconst 0, 1) := by decide +kernel
theorem dX11_laysChains_1 : decode cX11_laysChains 1 = .ok (.istore_n 1, 1) := by decide +kernel
theorem dX11_laysChains_2 : decode cX11_laysChains 2 = .ok (.iload_n 1, 1) := by decide +kernel
theorem dX11_laysChains_3 : decode cX11_laysChains 3 = .ok (.aload_n 0, 1) := by decide +kernel
theorem dX11_laysChains_4 : decode cX11_laysChains 4 = .ok (.getfield 7, 3) := by decide +kernel
theorem dX11_laysChains_7 : decode cX11_laysChains 7 = .ok (.bipush 9, 2) := by decide +kernel
theorem dX11_laysChains_9 : decode cX11_laysChains 9 = .ok (.iaload, 1) := by decide +kernel
theorem dX11_laysChains_10 : decode cX11_laysChains 10 = .ok (.if_icmp .ge 249, 3) := by decide +kernel
theorem dX11_laysChains_13 : decode cX11_laysChains 13 = .ok (.aload_n 0, 1) := by decide +kernel
theorem dX11_laysChains_14 : decode cX11_laysChains 14 = .ok (.getfield 22, 3) := by decide +kernel
theorem dX11_laysChains_17 : decode cX11_laysChains 17 = .ok (.iload_n 1, 1) := by decide +kernel
theorem dX11_laysChains_18 : decode cX11_laysChains 18 = .ok (.iconst (-1), 1) := by decide +kernel
theorem dX11_laysChains_19 : decode cX11_laysChains 19 = .ok (.iastore, 1) := by decide +kernel
theorem dX11_laysChains_20 : decode cX11_laysChains 20 = .ok (.iconst 0, 1) := by decide +kernel
theorem dX11_laysChains_21 : decode cX11_laysChains 21 = .ok (.istore_n 2, 1) := by decide +kernel
theorem dX11_laysChains_22 : decode cX11_laysChains 22 = .ok (.iload_n 2, 1) := by decide +kernel
theorem dX11_laysChains_23 : decode cX11_laysChains 23 = .ok (.iload_n 1, 1) := by decide +kernel
theorem dX11_laysChains_24 : decode cX11_laysChains 24 = .ok (.if_icmp .ge 229, 3) := by decide +kernel
theorem dX11_laysChains_27 : decode cX11_laysChains 27 = .ok (.aload_n 0, 1) := by decide +kernel
theorem dX11_laysChains_28 : decode cX11_laysChains 28 = .ok (.getfield 7, 3) := by decide +kernel
theorem dX11_laysChains_31 : decode cX11_laysChains 31 = .ok (.iload_n 2, 1) := by decide +kernel
theorem dX11_laysChains_32 : decode cX11_laysChains 32 = .ok (.iconst 4, 1) := by decide +kernel
theorem dX11_laysChains_33 : decode cX11_laysChains 33 = .ok (.invokestatic 126, 3) := by decide +kernel
theorem dX11_laysChains_36 : decode cX11_laysChains 36 = .ok (.iaload, 1) := by decide +kernel
theorem dX11_laysChains_37 : decode cX11_laysChains 37 = .ok (.ifCond .ne 30, 3) := by decide +kernel
theorem dX11_laysChains_40 : decode cX11_laysChains 40 = .ok (.aload_n 0, 1) := by decide +kernel
theorem dX11_laysChains_41 : decode cX11_laysChains 41 = .ok (.getfield 7, 3) := by decide +kernel
theorem dX11_laysChains_44 : decode cX11_laysChains 44 = .ok (.iload_n 2, 1) := by decide +kernel
theorem dX11_laysChains_45 : decode cX11_laysChains 45 = .ok (.iconst 0, 1) := by decide +kernel
theorem dX11_laysChains_46 : decode cX11_laysChains 46 = .ok (.invokestatic 126, 3) := by decide +kernel
theorem dX11_laysChains_49 : decode cX11_laysChains 49 = .ok (.iaload, 1) := by decide +kernel
theorem dX11_laysChains_50 : decode cX11_laysChains 50 = .ok (.aload_n 0, 1) := by decide +kernel
theorem dX11_laysChains_51 : decode cX11_laysChains 51 = .ok (.getfield 7, 3) := by decide +kernel
theorem dX11_laysChains_54 : decode cX11_laysChains 54 = .ok (.iload_n 1, 1) := by decide +kernel
theorem dX11_laysChains_55 : decode cX11_laysChains 55 = .ok (.iconst 0, 1) := by decide +kernel
theorem dX11_laysChains_56 : decode cX11_laysChains 56 = .ok (.invokestatic 126, 3) := by decide +kernel
theorem dX11_laysChains_59 : decode cX11_laysChains 59 = .ok (.iaload, 1) := by decide +kernel
theorem dX11_laysChains_60 : decode cX11_laysChains 60 = .ok (.if_icmp .eq 7, 3) := by decide +kernel
theorem dX11_laysChains_63 : decode cX11_laysChains 63 = .ok (.iconst 1, 1) := by decide +kernel
theorem dX11_laysChains_64 : decode cX11_laysChains 64 = .ok (.goto 4, 3) := by decide +kernel
theorem dX11_laysChains_67 : decode cX11_laysChains 67 = .ok (.iconst 0, 1) := by decide +kernel
theorem dX11_laysChains_68 : decode cX11_laysChains 68 = .ok (.istore_n 3, 1) := by decide +kernel
theorem dX11_laysChains_69 : decode cX11_laysChains 69 = .ok (.iconst 0, 1) := by decide +kernel
theorem dX11_laysChains_70 : decode cX11_laysChains 70 = .ok (.istore 4, 2) := by decide +kernel
theorem dX11_laysChains_72 : decode cX11_laysChains 72 = .ok (.iload 4, 2) := by decide +kernel
theorem dX11_laysChains_74 : decode cX11_laysChains 74 = .ok (.iload_n 1, 1) := by decide +kernel
theorem dX11_laysChains_75 : decode cX11_laysChains 75 = .ok (.if_icmp .ge 30, 3) := by decide +kernel
theorem dX11_laysChains_78 : decode cX11_laysChains 78 = .ok (.iload_n 3, 1) := by decide +kernel
theorem dX11_laysChains_79 : decode cX11_laysChains 79 = .ok (.ifCond .eq 18, 3) := by decide +kernel
theorem dX11_laysChains_82 : decode cX11_laysChains 82 = .ok (.aload_n 0, 1) := by decide +kernel
theorem dX11_laysChains_83 : decode cX11_laysChains 83 = .ok (.getfield 22, 3) := by decide +kernel
theorem dX11_laysChains_86 : decode cX11_laysChains 86 = .ok (.iload 4, 2) := by decide +kernel
theorem dX11_laysChains_88 : decode cX11_laysChains 88 = .ok (.iaload, 1) := by decide +kernel
theorem dX11_laysChains_89 : decode cX11_laysChains 89 = .ok (.iload_n 2, 1) := by decide +kernel
theorem dX11_laysChains_90 : decode cX11_laysChains 90 = .ok (.if_icmp .eq 7, 3) := by decide +kernel
theorem dX11_laysChains_93 : decode cX11_laysChains 93 = .ok (.iconst 1, 1) := by decide +kernel
theorem dX11_laysChains_94 : decode cX11_laysChains 94 = .ok (.goto 4, 3) := by decide +kernel
theorem dX11_laysChains_97 : decode cX11_laysChains 97 = .ok (.iconst 0, 1) := by decide +kernel
theorem dX11_laysChains_98 : decode cX11_laysChains 98 = .ok (.istore_n 3, 1) := by decide +kernel
theorem dX11_laysChains_99 : decode cX11_laysChains 99 = .ok (.iinc 4 1, 3) := by decide +kernel
theorem dX11_laysChains_102 : decode cX11_laysChains 102 = .ok (.goto (-30), 3) := by decide +kernel
theorem dX11_laysChains_105 : decode cX11_laysChains 105 = .ok (.aload_n 0, 1) := by decide +kernel
theorem dX11_laysChains_106 : decode cX11_laysChains 106 = .ok (.getfield 7, 3) := by decide +kernel
theorem dX11_laysChains_109 : decode cX11_laysChains 109 = .ok (.iload_n 1, 1) := by decide +kernel
theorem dX11_laysChains_110 : decode cX11_laysChains 110 = .ok (.iconst 1, 1) := by decide +kernel
theorem dX11_laysChains_111 : decode cX11_laysChains 111 = .ok (.invokestatic 126, 3) := by decide +kernel
theorem dX11_laysChains_114 : decode cX11_laysChains 114 = .ok (.iaload, 1) := by decide +kernel
theorem dX11_laysChains_115 : decode cX11_laysChains 115 = .ok (.aload_n 0, 1) := by decide +kernel
theorem dX11_laysChains_116 : decode cX11_laysChains 116 = .ok (.getfield 7, 3) := by decide +kernel
theorem dX11_laysChains_119 : decode cX11_laysChains 119 = .ok (.iload_n 2, 1) := by decide +kernel
theorem dX11_laysChains_120 : decode cX11_laysChains 120 = .ok (.iconst 2, 1) := by decide +kernel
theorem dX11_laysChains_121 : decode cX11_laysChains 121 = .ok (.invokestatic 126, 3) := by decide +kernel
theorem dX11_laysChains_124 : decode cX11_laysChains 124 = .ok (.iaload, 1) := by decide +kernel
theorem dX11_laysChains_125 : decode cX11_laysChains 125 = .ok (.isub, 1) := by decide +kernel
theorem dX11_laysChains_126 : decode cX11_laysChains 126 = .ok (.istore 4, 2) := by decide +kernel
theorem dX11_laysChains_128 : decode cX11_laysChains 128 = .ok (.iload_n 3, 1) := by decide +kernel
theorem dX11_laysChains_129 : decode cX11_laysChains 129 = .ok (.ifCond .eq 56, 3) := by decide +kernel
theorem dX11_laysChains_132 : decode cX11_laysChains 132 = .ok (.iload 4, 2) := by decide +kernel
theorem dX11_laysChains_134 : decode cX11_laysChains 134 = .ok (.i2l, 1) := by decide +kernel
theorem dX11_laysChains_135 : decode cX11_laysChains 135 = .ok (.lconst 1, 1) := by decide +kernel
theorem dX11_laysChains_136 : decode cX11_laysChains 136 = .ok (.aload_n 0, 1) := by decide +kernel
theorem dX11_laysChains_137 : decode cX11_laysChains 137 = .ok (.getfield 7, 3) := by decide +kernel
theorem dX11_laysChains_140 : decode cX11_laysChains 140 = .ok (.iconst 3, 1) := by decide +kernel
theorem dX11_laysChains_141 : decode cX11_laysChains 141 = .ok (.iaload, 1) := by decide +kernel
theorem dX11_laysChains_142 : decode cX11_laysChains 142 = .ok (.i2l, 1) := by decide +kernel
theorem dX11_laysChains_143 : decode cX11_laysChains 143 = .ok (.invokestatic 37, 3) := by decide +kernel
theorem dX11_laysChains_146 : decode cX11_laysChains 146 = .ok (.ifCond .eq 39, 3) := by decide +kernel
theorem dX11_laysChains_149 : decode cX11_laysChains 149 = .ok (.aload_n 0, 1) := by decide +kernel
theorem dX11_laysChains_150 : decode cX11_laysChains 150 = .ok (.getfield 7, 3) := by decide +kernel
theorem dX11_laysChains_153 : decode cX11_laysChains 153 = .ok (.iload_n 2, 1) := by decide +kernel
theorem dX11_laysChains_154 : decode cX11_laysChains 154 = .ok (.iconst 3, 1) := by decide +kernel
theorem dX11_laysChains_155 : decode cX11_laysChains 155 = .ok (.invokestatic 126, 3) := by decide +kernel
theorem dX11_laysChains_158 : decode cX11_laysChains 158 = .ok (.iaload, 1) := by decide +kernel
theorem dX11_laysChains_159 : decode cX11_laysChains 159 = .ok (.aload_n 0, 1) := by decide +kernel
theorem dX11_laysChains_160 : decode cX11_laysChains 160 = .ok (.getfield 7, 3) := by decide +kernel
theorem dX11_laysChains_163 : decode cX11_laysChains 163 = .ok (.iload_n 1, 1) := by decide +kernel
theorem dX11_laysChains_164 : decode cX11_laysChains 164 = .ok (.iconst 3, 1) := by decide +kernel
theorem dX11_laysChains_165 : decode cX11_laysChains 165 = .ok (.invokestatic 126, 3) := by decide +kernel
theorem dX11_laysChains_168 : decode cX11_laysChains 168 = .ok (.iaload, 1) := by decide +kernel
theorem dX11_laysChains_169 : decode cX11_laysChains 169 = .ok (.invokestatic 159, 3) := by decide +kernel
theorem dX11_laysChains_172 : decode cX11_laysChains 172 = .ok (.aload_n 0, 1) := by decide +kernel
theorem dX11_laysChains_173 : decode cX11_laysChains 173 = .ok (.getfield 7, 3) := by decide +kernel
theorem dX11_laysChains_176 : decode cX11_laysChains 176 = .ok (.iconst 4, 1) := by decide +kernel
theorem dX11_laysChains_177 : decode cX11_laysChains 177 = .ok (.iaload, 1) := by decide +kernel
theorem dX11_laysChains_178 : decode cX11_laysChains 178 = .ok (.if_icmp .gt 7, 3) := by decide +kernel
theorem dX11_laysChains_181 : decode cX11_laysChains 181 = .ok (.iconst 1, 1) := by decide +kernel
theorem dX11_laysChains_182 : decode cX11_laysChains 182 = .ok (.goto 4, 3) := by decide +kernel
theorem dX11_laysChains_185 : decode cX11_laysChains 185 = .ok (.iconst 0, 1) := by decide +kernel
theorem dX11_laysChains_186 : decode cX11_laysChains 186 = .ok (.istore 5, 2) := by decide +kernel
theorem dX11_laysChains_188 : decode cX11_laysChains 188 = .ok (.aload_n 0, 1) := by decide +kernel
theorem dX11_laysChains_189 : decode cX11_laysChains 189 = .ok (.getfield 22, 3) := by decide +kernel
theorem dX11_laysChains_192 : decode cX11_laysChains 192 = .ok (.iload_n 1, 1) := by decide +kernel
theorem dX11_laysChains_193 : decode cX11_laysChains 193 = .ok (.iload 5, 2) := by decide +kernel
theorem dX11_laysChains_195 : decode cX11_laysChains 195 = .ok (.ifCond .eq 45, 3) := by decide +kernel
theorem dX11_laysChains_198 : decode cX11_laysChains 198 = .ok (.aload_n 0, 1) := by decide +kernel
theorem dX11_laysChains_199 : decode cX11_laysChains 199 = .ok (.getfield 22, 3) := by decide +kernel
theorem dX11_laysChains_202 : decode cX11_laysChains 202 = .ok (.iload_n 1, 1) := by decide +kernel
theorem dX11_laysChains_203 : decode cX11_laysChains 203 = .ok (.iaload, 1) := by decide +kernel
theorem dX11_laysChains_204 : decode cX11_laysChains 204 = .ok (.iconst (-1), 1) := by decide +kernel
theorem dX11_laysChains_205 : decode cX11_laysChains 205 = .ok (.if_icmp .eq 31, 3) := by decide +kernel
theorem dX11_laysChains_208 : decode cX11_laysChains 208 = .ok (.aload_n 0, 1) := by decide +kernel
theorem dX11_laysChains_209 : decode cX11_laysChains 209 = .ok (.getfield 7, 3) := by decide +kernel
theorem dX11_laysChains_212 : decode cX11_laysChains 212 = .ok (.iload_n 2, 1) := by decide +kernel
theorem dX11_laysChains_213 : decode cX11_laysChains 213 = .ok (.iconst 2, 1) := by decide +kernel
theorem dX11_laysChains_214 : decode cX11_laysChains 214 = .ok (.invokestatic 126, 3) := by decide +kernel
theorem dX11_laysChains_217 : decode cX11_laysChains 217 = .ok (.iaload, 1) := by decide +kernel
theorem dX11_laysChains_218 : decode cX11_laysChains 218 = .ok (.aload_n 0, 1) := by decide +kernel
theorem dX11_laysChains_219 : decode cX11_laysChains 219 = .ok (.getfield 7, 3) := by decide +kernel
theorem dX11_laysChains_222 : decode cX11_laysChains 222 = .ok (.aload_n 0, 1) := by decide +kernel
theorem dX11_laysChains_223 : decode cX11_laysChains 223 = .ok (.getfield 22, 3) := by decide +kernel
theorem dX11_laysChains_226 : decode cX11_laysChains 226 = .ok (.iload_n 1, 1) := by decide +kernel
theorem dX11_laysChains_227 : decode cX11_laysChains 227 = .ok (.iaload, 1) := by decide +kernel
theorem dX11_laysChains_228 : decode cX11_laysChains 228 = .ok (.iconst 2, 1) := by decide +kernel
theorem dX11_laysChains_229 : decode cX11_laysChains 229 = .ok (.invokestatic 126, 3) := by decide +kernel
theorem dX11_laysChains_232 : decode cX11_laysChains 232 = .ok (.iaload, 1) := by decide +kernel
theorem dX11_laysChains_233 : decode cX11_laysChains 233 = .ok (.if_icmp .lt 7, 3) := by decide +kernel
theorem dX11_laysChains_236 : decode cX11_laysChains 236 = .ok (.iload_n 2, 1) := by decide +kernel
theorem dX11_laysChains_237 : decode cX11_laysChains 237 = .ok (.goto 9, 3) := by decide +kernel
theorem dX11_laysChains_240 : decode cX11_laysChains 240 = .ok (.aload_n 0, 1) := by decide +kernel
theorem dX11_laysChains_241 : decode cX11_laysChains 241 = .ok (.getfield 22, 3) := by decide +kernel
theorem dX11_laysChains_244 : decode cX11_laysChains 244 = .ok (.iload_n 1, 1) := by decide +kernel
theorem dX11_laysChains_245 : decode cX11_laysChains 245 = .ok (.iaload, 1) := by decide +kernel
theorem dX11_laysChains_246 : decode cX11_laysChains 246 = .ok (.iastore, 1) := by decide +kernel
theorem dX11_laysChains_247 : decode cX11_laysChains 247 = .ok (.iinc 2 1, 3) := by decide +kernel
theorem dX11_laysChains_250 : decode cX11_laysChains 250 = .ok (.goto (-228), 3) := by decide +kernel
theorem dX11_laysChains_253 : decode cX11_laysChains 253 = .ok (.iinc 1 1, 3) := by decide +kernel
theorem dX11_laysChains_256 : decode cX11_laysChains 256 = .ok (.goto (-254), 3) := by decide +kernel
theorem dX11_laysChains_259 : decode cX11_laysChains 259 = .ok (.return_, 1) := by decide +kernel
theorem dX11_firstOf_0 : decode cX11_firstOf 0 = .ok (.iload_n 1, 1) := by decide +kernel
theorem dX11_firstOf_1 : decode cX11_firstOf 1 = .ok (.istore_n 2, 1) := by decide +kernel
theorem dX11_firstOf_2 : decode cX11_firstOf 2 = .ok (.aload_n 0, 1) := by decide +kernel
theorem dX11_firstOf_3 : decode cX11_firstOf 3 = .ok (.getfield 22, 3) := by decide +kernel
theorem dX11_firstOf_6 : decode cX11_firstOf 6 = .ok (.iload_n 2, 1) := by decide +kernel
theorem dX11_firstOf_7 : decode cX11_firstOf 7 = .ok (.iaload, 1) := by decide +kernel
theorem dX11_firstOf_8 : decode cX11_firstOf 8 = .ok (.iconst (-1), 1) := by decide +kernel
theorem dX11_firstOf_9 : decode cX11_firstOf 9 = .ok (.if_icmp .eq 13, 3) := by decide +kernel
theorem dX11_firstOf_12 : decode cX11_firstOf 12 = .ok (.aload_n 0, 1) := by decide +kernel
theorem dX11_firstOf_13 : decode cX11_firstOf 13 = .ok (.getfield 22, 3) := by decide +kernel
theorem dX11_firstOf_16 : decode cX11_firstOf 16 = .ok (.iload_n 2, 1) := by decide +kernel
theorem dX11_firstOf_17 : decode cX11_firstOf 17 = .ok (.iaload, 1) := by decide +kernel
theorem dX11_firstOf_18 : decode cX11_firstOf 18 = .ok (.istore_n 2, 1) := by decide +kernel
theorem dX11_firstOf_19 : decode cX11_firstOf 19 = .ok (.goto (-17), 3) := by decide +kernel
theorem dX11_firstOf_22 : decode cX11_firstOf 22 = .ok (.iload_n 2, 1) := by decide +kernel
theorem dX11_firstOf_23 : decode cX11_firstOf 23 = .ok (.ireturn, 1) := by decide +kernel
theorem dX11_events_0 : decode cX11_events 0 = .ok (.aload_n 0, 1) := by decide +kernel
theorem dX11_events_1 : decode cX11_events 1 = .ok (.iconst 0, 1) := by decide +kernel
theorem dX11_events_2 : decode cX11_events 2 = .ok (.putfield 28, 3) := by decide +kernel
theorem dX11_events_5 : decode cX11_events 5 = .ok (.aload_n 0, 1) := by decide +kernel
theorem dX11_events_6 : decode cX11_events 6 = .ok (.getfield 7, 3) := by decide +kernel
theorem dX11_events_9 : decode cX11_events 9 = .ok (.bipush 9, 2) := by decide +kernel
theorem dX11_events_11 : decode cX11_events 11 = .ok (.iaload, 1) := by decide +kernel
theorem dX11_events_12 : decode cX11_events 12 = .ok (.ireturn, 1) := by decide +kernel
set_option maxRecDepth 20000 in
theorem ggX11_isEvent_X11_in : GoodIn wsX11_isEvent wsX11_in := goodIn_r _ [5] (by decide +kernel) (by decide +kernel)
set_option maxRecDepth 20000 in
theorem gX11_isEvent_X11_in : GoodIn wsX11_isEvent (va_wsS RX11 37 yX11_in wsX11_in) := goodIn_app (goodIn_of _ (by decide +kernel)) ggX11_isEvent_X11_in
theorem dX11_isEvent_0 : decode cX11_isEvent 0 = .ok (.iload_n 1, 1) := by decide +kernel
theorem dX11_isEvent_1 : decode cX11_isEvent 1 = .ok (.i2l, 1) := by decide +kernel
theorem dX11_isEvent_2 : decode cX11_isEvent 2 = .ok (.lconst 0, 1) := by decide +kernel
theorem dX11_isEvent_3 : decode cX11_isEvent 3 = .ok (.aload_n 0, 1) := by decide +kernel
theorem dX11_isEvent_4 : decode cX11_isEvent 4 = .ok (.getfield 7, 3) := by decide +kernel
theorem dX11_isEvent_7 : decode cX11_isEvent 7 = .ok (.bipush 9, 2) := by decide +kernel
theorem dX11_isEvent_9 : decode cX11_isEvent 9 = .ok (.iaload, 1) := by decide +kernel
theorem dX11_isEvent_10 : decode cX11_isEvent 10 = .ok (.iconst 1, 1) := by decide +kernel
theorem dX11_isEvent_11 : decode cX11_isEvent 11 = .ok (.isub, 1) := by decide +kernel
theorem dX11_isEvent_12 : decode cX11_isEvent 12 = .ok (.i2l, 1) := by decide +kernel
theorem dX11_isEvent_13 : decode cX11_isEvent 13 = .ok (.invokestatic 37, 3) := by decide +kernel
theorem dX11_isEvent_16 : decode cX11_isEvent 16 = .ok (.ireturn, 1) := by decide +kernel
set_option maxRecDepth 20000 in
theorem ggX11_eventNow_X11_eventAt : GoodIn wsX11_eventNow wsX11_eventAt := goodIn_r _ [6] (by decide +kernel) (by decide +kernel)
set_option maxRecDepth 20000 in
theorem gX11_eventNow_X11_eventAt : GoodIn wsX11_eventNow (va_wsS RX11 126 yX11_eventAt wsX11_eventAt) := goodIn_app (goodIn_of _ (by decide +kernel)) ggX11_eventNow_X11_eventAt
set_option maxRecDepth 20000 in
theorem ggX11_eventNow_X11_firstOf : GoodIn wsX11_eventNow wsX11_firstOf := goodIn_r _ [10, 2, 11, 12, 13, 14, 15, 16, 17, 18, 19, 20, 21, 22, 23, 24] (by decide +kernel) (by decide +kernel)
set_option maxRecDepth 20000 in
theorem gX11_eventNow_X11_firstOf : GoodIn wsX11_eventNow (wsV RX11 162 RX11 yX11_firstOf wsX11_firstOf) := goodIn_app (goodIn_of _ (by decide +kernel)) ggX11_eventNow_X11_firstOf
theorem dX11_eventNow_0 : decode cX11_eventNow 0 = .ok (.iload_n 2, 1) := by decide +kernel
theorem dX11_eventNow_1 : decode cX11_eventNow 1 = .ok (.iconst 5, 1) := by decide +kernel
theorem dX11_eventNow_2 : decode cX11_eventNow 2 = .ok (.if_icmp .ge 16, 3) := by decide +kernel
theorem dX11_eventNow_5 : decode cX11_eventNow 5 = .ok (.aload_n 0, 1) := by decide +kernel
theorem dX11_eventNow_6 : decode cX11_eventNow 6 = .ok (.getfield 7, 3) := by decide +kernel
theorem dX11_eventNow_9 : decode cX11_eventNow 9 = .ok (.iload_n 1, 1) := by decide +kernel
theorem dX11_eventNow_10 : decode cX11_eventNow 10 = .ok (.iload_n 2, 1) := by decide +kernel
theorem dX11_eventNow_11 : decode cX11_eventNow 11 = .ok (.invokestatic 126, 3) := by decide +kernel
theorem dX11_eventNow_14 : decode cX11_eventNow 14 = .ok (.iaload, 1) := by decide +kernel
theorem dX11_eventNow_15 : decode cX11_eventNow 15 = .ok (.goto 22, 3) := by decide +kernel
theorem dX11_eventNow_18 : decode cX11_eventNow 18 = .ok (.iload_n 2, 1) := by decide +kernel
theorem dX11_eventNow_19 : decode cX11_eventNow 19 = .ok (.iconst 5, 1) := by decide +kernel
theorem dX11_eventNow_20 : decode cX11_eventNow 20 = .ok (.if_icmp .ne 12, 3) := by decide +kernel
theorem dX11_eventNow_23 : decode cX11_eventNow 23 = .ok (.aload_n 0, 1) := by decide +kernel
theorem dX11_eventNow_24 : decode cX11_eventNow 24 = .ok (.getfield 22, 3) := by decide +kernel
theorem dX11_eventNow_27 : decode cX11_eventNow 27 = .ok (.iload_n 1, 1) := by decide +kernel
theorem dX11_eventNow_28 : decode cX11_eventNow 28 = .ok (.iaload, 1) := by decide +kernel
theorem dX11_eventNow_29 : decode cX11_eventNow 29 = .ok (.goto 8, 3) := by decide +kernel
theorem dX11_eventNow_32 : decode cX11_eventNow 32 = .ok (.aload_n 0, 1) := by decide +kernel
theorem dX11_eventNow_33 : decode cX11_eventNow 33 = .ok (.iload_n 1, 1) := by decide +kernel
theorem dX11_eventNow_34 : decode cX11_eventNow 34 = .ok (.invokevirtual 162, 3) := by decide +kernel
theorem dX11_eventNow_37 : decode cX11_eventNow 37 = .ok (.ireturn, 1) := by decide +kernel
set_option maxRecDepth 20000 in
theorem ggX11_event_X11_isEvent : GoodIn wsX11_event wsX11_isEvent := goodIn_r _ [6, 7, 8, 9, 5, 10, 35, 36, 37, 38, 39, 40, 41, 42, 43, 44, 45, 46, 47, 48] (by decide +kernel) (by decide +kernel)
set_option maxRecDepth 20000 in
theorem gX11_event_X11_isEvent : GoodIn wsX11_event (wsV RX11 165 RX11 yX11_isEvent wsX11_isEvent) := goodIn_app (goodIn_of _ (by decide +kernel)) ggX11_event_X11_isEvent
set_option maxRecDepth 20000 in
theorem ggX11_event_X11_in : GoodIn wsX11_event wsX11_in := goodIn_r _ [10] (by decide +kernel) (by decide +kernel)
set_option maxRecDepth 20000 in
theorem gX11_event_X11_in : GoodIn wsX11_event (va_wsS RX11 37 yX11_in wsX11_in) := goodIn_app (goodIn_of _ (by decide +kernel)) ggX11_event_X11_in
set_option maxRecDepth 20000 in
theorem ggX11_event_X11_goes : GoodIn wsX11_event wsX11_goes := goodIn_r _ [14, 15, 35, 36, 37, 38, 39, 40, 41, 42, 43, 44, 45, 46, 47, 48] (by decide +kernel) (by decide +kernel)
set_option maxRecDepth 20000 in
theorem gX11_event_X11_goes : GoodIn wsX11_event (wsV RX11 57 RX11 yX11_goes wsX11_goes) := goodIn_app (goodIn_of _ (by decide +kernel)) ggX11_event_X11_goes
set_option maxRecDepth 20000 in
theorem ggX11_event_X11_laysChains : GoodIn wsX11_event wsX11_laysChains := goodIn_r _ [19, 7, 20, 21, 22, 5, 23, 8, 9, 10, 24, 25, 26, 35, 36, 37, 38, 39, 40, 41, 42, 43, 44, 45, 46, 47, 48] (by decide +kernel) (by decide +kernel)
set_option maxRecDepth 20000 in
theorem gX11_event_X11_laysChains : GoodIn wsX11_event (wsV RX11 170 RX11 yX11_laysChains wsX11_laysChains) := goodIn_app (goodIn_of _ (by decide +kernel)) ggX11_event_X11_laysChains
set_option maxRecDepth 20000 in
theorem ggX11_event_X11_eventNow : GoodIn wsX11_event wsX11_eventNow := goodIn_r _ [30, 7, 20, 21, 22, 5, 23, 31, 32, 33, 34, 35, 36, 37, 38, 39, 40, 41, 42, 43, 44, 45, 46, 47, 48] (by decide +kernel) (by decide +kernel)
set_option maxRecDepth 20000 in
theorem gX11_event_X11_eventNow : GoodIn wsX11_event (wsV RX11 173 RX11 yX11_eventNow wsX11_eventNow) := goodIn_app (goodIn_of _ (by decide +kernel)) ggX11_event_X11_eventNow
theorem dX11_event_0 : decode cX11_event 0 = .ok (.aload_n 0, 1) := by decide +kernel
theorem dX11_event_1 : decode cX11_event 1 = .ok (.aload_n 0, 1) := by decide +kernel
theorem dX11_event_2 : decode cX11_event 2 = .ok (.iload_n 1, 1) := by decide +kernel
theorem dX11_event_3 : decode cX11_event 3 = .ok (.invokevirtual 165, 3) := by decide +kernel
theorem dX11_event_6 : decode cX11_event 6 = .ok (.iload_n 2, 1) := by decide +kernel
theorem dX11_event_7 : decode cX11_event 7 = .ok (.i2l, 1) := by decide +kernel
theorem dX11_event_8 : decode cX11_event 8 = .ok (.lconst 0, 1) := by decide +kernel
theorem dX11_event_9 : decode cX11_event 9 = .ok (.ldc2_w 168, 3) := by decide +kernel
theorem dX11_event_12 : decode cX11_event 12 = .ok (.invokestatic 37, 3) := by decide +kernel
theorem dX11_event_15 : decode cX11_event 15 = .ok (.invokevirtual 57, 3) := by decide +kernel
theorem dX11_event_18 : decode cX11_event 18 = .ok (.ifCond .ne 5, 3) := by decide +kernel
theorem dX11_event_21 : decode cX11_event 21 = .ok (.iconst 0, 1) := by decide +kernel
theorem dX11_event_22 : decode cX11_event 22 = .ok (.ireturn, 1) := by decide +kernel
theorem dX11_event_23 : decode cX11_event 23 = .ok (.aload_n 0, 1) := by decide +kernel
theorem dX11_event_24 : decode cX11_event 24 = .ok (.invokevirtual 170, 3) := by decide +kernel
theorem dX11_event_27 : decode cX11_event 27 = .ok (.aload_n 0, 1) := by decide +kernel
theorem dX11_event_28 : decode cX11_event 28 = .ok (.iload_n 1, 1) := by decide +kernel
theorem dX11_event_29 : decode cX11_event 29 = .ok (.iload_n 2, 1) := by decide +kernel
theorem dX11_event_30 : decode cX11_event 30 = .ok (.invokevirtual 173, 3) := by decide +kernel
theorem dX11_event_33 : decode cX11_event 33 = .ok (.ireturn, 1) := by decide +kernel
set_option maxRecDepth 20000 in
theorem ggX11_lengthOf_X11_firstOf : GoodIn wsX11_lengthOf wsX11_firstOf := goodIn_r _ [7, 8, 9, 10, 11, 12, 13, 14, 15, 16, 17, 18, 19, 20, 21, 22] (by decide +kernel) (by decide +kernel)
set_option maxRecDepth 20000 in
theorem gX11_lengthOf_X11_firstOf : GoodIn wsX11_lengthOf (wsV RX11 162 RX11 yX11_firstOf wsX11_firstOf) := goodIn_app (goodIn_of _ (by decide +kernel)) ggX11_lengthOf_X11_firstOf
theorem dX11_lengthOf_0 : decode cX11_lengthOf 0 = .ok (.aload_n 0, 1) := by decide +kernel
theorem dX11_lengthOf_1 : decode cX11_lengthOf 1 = .ok (.iload_n 1, 1) := by decide +kernel
theorem dX11_lengthOf_2 : decode cX11_lengthOf 2 = .ok (.invokevirtual 162, 3) := by decide +kernel
theorem dX11_lengthOf_5 : decode cX11_lengthOf 5 = .ok (.istore_n 2, 1) := by decide +kernel
theorem dX11_lengthOf_6 : decode cX11_lengthOf 6 = .ok (.iconst 0, 1) := by decide +kernel
theorem dX11_lengthOf_7 : decode cX11_lengthOf 7 = .ok (.istore_n 3, 1) := by decide +kernel
theorem dX11_lengthOf_8 : decode cX11_lengthOf 8 = .ok (.aload_n 0, 1) := by decide +kernel
theorem dX11_lengthOf_9 : decode cX11_lengthOf 9 = .ok (.iload_n 2, 1) := by decide +kernel
theorem dX11_lengthOf_10 : decode cX11_lengthOf 10 = .ok (.putfield 176, 3) := by decide +kernel
theorem dX11_lengthOf_13 : decode cX11_lengthOf 13 = .ok (.iconst 0, 1) := by decide +kernel
theorem dX11_lengthOf_14 : decode cX11_lengthOf 14 = .ok (.istore 4, 2) := by decide +kernel
theorem dX11_lengthOf_16 : decode cX11_lengthOf 16 = .ok (.iload 4, 2) := by decide +kernel
theorem dX11_lengthOf_18 : decode cX11_lengthOf 18 = .ok (.aload_n 0, 1) := by decide +kernel
theorem dX11_lengthOf_19 : decode cX11_lengthOf 19 = .ok (.getfield 7, 3) := by decide +kernel
theorem dX11_lengthOf_22 : decode cX11_lengthOf 22 = .ok (.bipush 9, 2) := by decide +kernel
theorem dX11_lengthOf_24 : decode cX11_lengthOf 24 = .ok (.iaload, 1) := by decide +kernel
theorem dX11_lengthOf_25 : decode cX11_lengthOf 25 = .ok (.if_icmp .ge 57, 3) := by decide +kernel
theorem dX11_lengthOf_28 : decode cX11_lengthOf 28 = .ok (.aload_n 0, 1) := by decide +kernel
theorem dX11_lengthOf_29 : decode cX11_lengthOf 29 = .ok (.iload 4, 2) := by decide +kernel
theorem dX11_lengthOf_31 : decode cX11_lengthOf 31 = .ok (.invokevirtual 162, 3) := by decide +kernel
theorem dX11_lengthOf_34 : decode cX11_lengthOf 34 = .ok (.iload_n 2, 1) := by decide +kernel
theorem dX11_lengthOf_35 : decode cX11_lengthOf 35 = .ok (.if_icmp .ne 7, 3) := by decide +kernel
theorem dX11_lengthOf_38 : decode cX11_lengthOf 38 = .ok (.iconst 1, 1) := by decide +kernel
theorem dX11_lengthOf_39 : decode cX11_lengthOf 39 = .ok (.goto 4, 3) := by decide +kernel
theorem dX11_lengthOf_42 : decode cX11_lengthOf 42 = .ok (.iconst 0, 1) := by decide +kernel
theorem dX11_lengthOf_43 : decode cX11_lengthOf 43 = .ok (.istore 5, 2) := by decide +kernel
theorem dX11_lengthOf_45 : decode cX11_lengthOf 45 = .ok (.iload_n 3, 1) := by decide +kernel
theorem dX11_lengthOf_46 : decode cX11_lengthOf 46 = .ok (.iload 5, 2) := by decide +kernel
theorem dX11_lengthOf_48 : decode cX11_lengthOf 48 = .ok (.ifCond .eq 7, 3) := by decide +kernel
theorem dX11_lengthOf_51 : decode cX11_lengthOf 51 = .ok (.iconst 1, 1) := by decide +kernel
theorem dX11_lengthOf_52 : decode cX11_lengthOf 52 = .ok (.goto 4, 3) := by decide +kernel
theorem dX11_lengthOf_55 : decode cX11_lengthOf 55 = .ok (.iconst 0, 1) := by decide +kernel
theorem dX11_lengthOf_56 : decode cX11_lengthOf 56 = .ok (.iadd, 1) := by decide +kernel
theorem dX11_lengthOf_57 : decode cX11_lengthOf 57 = .ok (.istore_n 3, 1) := by decide +kernel
theorem dX11_lengthOf_58 : decode cX11_lengthOf 58 = .ok (.aload_n 0, 1) := by decide +kernel
theorem dX11_lengthOf_59 : decode cX11_lengthOf 59 = .ok (.iload 5, 2) := by decide +kernel
theorem dX11_lengthOf_61 : decode cX11_lengthOf 61 = .ok (.ifCond .eq 8, 3) := by decide +kernel
theorem dX11_lengthOf_64 : decode cX11_lengthOf 64 = .ok (.iload 4, 2) := by decide +kernel
theorem dX11_lengthOf_66 : decode cX11_lengthOf 66 = .ok (.goto 7, 3) := by decide +kernel
theorem dX11_lengthOf_69 : decode cX11_lengthOf 69 = .ok (.aload_n 0, 1) := by decide +kernel
theorem dX11_lengthOf_70 : decode cX11_lengthOf 70 = .ok (.getfield 176, 3) := by decide +kernel
theorem dX11_lengthOf_73 : decode cX11_lengthOf 73 = .ok (.putfield 176, 3) := by decide +kernel
theorem dX11_lengthOf_76 : decode cX11_lengthOf 76 = .ok (.iinc 4 1, 3) := by decide +kernel
theorem dX11_lengthOf_79 : decode cX11_lengthOf 79 = .ok (.goto (-63), 3) := by decide +kernel
theorem dX11_lengthOf_82 : decode cX11_lengthOf 82 = .ok (.iload_n 3, 1) := by decide +kernel
theorem dX11_lengthOf_83 : decode cX11_lengthOf 83 = .ok (.ireturn, 1) := by decide +kernel
set_option maxRecDepth 20000 in
theorem ggX11_chainLength_X11_isEvent : GoodIn wsX11_chainLength wsX11_isEvent := goodIn_r _ [5, 6, 7, 8, 4, 9, 35, 36, 37, 38, 39, 40, 41, 42, 43, 44, 45, 46, 47, 48] (by decide +kernel) (by decide +kernel)
set_option maxRecDepth 20000 in
theorem gX11_chainLength_X11_isEvent : GoodIn wsX11_chainLength (wsV RX11 165 RX11 yX11_isEvent wsX11_isEvent) := goodIn_app (goodIn_of _ (by decide +kernel)) ggX11_chainLength_X11_isEvent
set_option maxRecDepth 20000 in
theorem ggX11_chainLength_X11_goes : GoodIn wsX11_chainLength wsX11_goes := goodIn_r _ [13, 14, 35, 36, 37, 38, 39, 40, 41, 42, 43, 44, 45, 46, 47, 48] (by decide +kernel) (by decide +kernel)
set_option maxRecDepth 20000 in
theorem gX11_chainLength_X11_goes : GoodIn wsX11_chainLength (wsV RX11 57 RX11 yX11_goes wsX11_goes) := goodIn_app (goodIn_of _ (by decide +kernel)) ggX11_chainLength_X11_goes
set_option maxRecDepth 20000 in
theorem ggX11_chainLength_X11_laysChains : GoodIn wsX11_chainLength wsX11_laysChains := goodIn_r _ [18, 6, 19, 20, 21, 4, 22, 7, 8, 9, 23, 24, 25, 35, 36, 37, 38, 39, 40, 41, 42, 43, 44, 45, 46, 47, 48] (by decide +kernel) (by decide +kernel)
set_option maxRecDepth 20000 in
theorem gX11_chainLength_X11_laysChains : GoodIn wsX11_chainLength (wsV RX11 170 RX11 yX11_laysChains wsX11_laysChains) := goodIn_app (goodIn_of _ (by decide +kernel)) ggX11_chainLength_X11_laysChains
set_option maxRecDepth 20000 in
theorem ggX11_chainLength_X11_lengthOf : GoodIn wsX11_chainLength wsX11_lengthOf := goodIn_r _ [29, 30, 6, 31, 32, 33, 4, 34, 19, 35, 36, 37, 38, 39, 40, 41, 42, 43, 44, 45, 46, 47, 48] (by decide +kernel) (by decide +kernel)
set_option maxRecDepth 20000 in
theorem gX11_chainLength_X11_lengthOf : GoodIn wsX11_chainLength (wsV RX11 179 RX11 yX11_lengthOf wsX11_lengthOf) := goodIn_app (goodIn_of _ (by decide +kernel)) ggX11_chainLength_X11_lengthOf
theorem dX11_chainLength_0 : decode cX11_chainLength 0 = .ok (.aload_n 0, 1) := by decide +kernel
theorem dX11_chainLength_1 : decode cX11_chainLength 1 = .ok (.aload_n 0, 1) := by decide +kernel
theorem dX11_chainLength_2 : decode cX11_chainLength 2 = .ok (.iload_n 1, 1) := by decide +kernel
theorem dX11_chainLength_3 : decode cX11_chainLength 3 = .ok (.invokevirtual 165, 3) := by decide +kernel
theorem dX11_chainLength_6 : decode cX11_chainLength 6 = .ok (.iconst 1, 1) := by decide +kernel
theorem dX11_chainLength_7 : decode cX11_chainLength 7 = .ok (.invokevirtual 57, 3) := by decide +kernel
theorem dX11_chainLength_10 : decode cX11_chainLength 10 = .ok (.ifCond .ne 5, 3) := by decide +kernel
theorem dX11_chainLength_13 : decode cX11_chainLength 13 = .ok (.iconst 0, 1) := by decide +kernel
theorem dX11_chainLength_14 : decode cX11_chainLength 14 = .ok (.ireturn, 1) := by decide +kernel
theorem dX11_chainLength_15 : decode cX11_chainLength 15 = .ok (.aload_n 0, 1) := by decide +kernel
theorem dX11_chainLength_16 : decode cX11_chainLength 16 = .ok (.invokevirtual 170, 3) := by decide +kernel
theorem dX11_chainLength_19 : decode cX11_chainLength 19 = .ok (.aload_n 0, 1) := by decide +kernel
theorem dX11_chainLength_20 : decode cX11_chainLength 20 = .ok (.iload_n 1, 1) := by decide +kernel
theorem dX11_chainLength_21 : decode cX11_chainLength 21 = .ok (.invokevirtual 179, 3) := by decide +kernel
theorem dX11_chainLength_24 : decode cX11_chainLength 24 = .ok (.ireturn, 1) := by decide +kernel
set_option maxRecDepth 20000 in
theorem ggX11_chains_X11_laysChains : GoodIn wsX11_chains wsX11_laysChains := goodIn_r _ [8, 2, 3, 9, 10, 7, 11, 12, 13, 14, 15, 16, 17, 18, 19, 20, 21, 22, 23, 24, 25, 26, 27, 28, 29, 30, 31] (by decide +kernel) (by decide +kernel)
set_option maxRecDepth 20000 in
theorem gX11_chains_X11_laysChains : GoodIn wsX11_chains (wsV RX11 170 RX11 yX11_laysChains wsX11_laysChains) := goodIn_app (goodIn_of _ (by decide +kernel)) ggX11_chains_X11_laysChains
theorem dX11_chains_0 : decode cX11_chains 0 = .ok (.aload_n 0, 1) := by decide +kernel
theorem dX11_chains_1 : decode cX11_chains 1 = .ok (.iconst 0, 1) := by decide +kernel
theorem dX11_chains_2 : decode cX11_chains 2 = .ok (.putfield 28, 3) := by decide +kernel
theorem dX11_chains_5 : decode cX11_chains 5 = .ok (.aload_n 0, 1) := by decide +kernel
theorem dX11_chains_6 : decode cX11_chains 6 = .ok (.invokevirtual 170, 3) := by decide +kernel
theorem dX11_chains_9 : decode cX11_chains 9 = .ok (.iconst 0, 1) := by decide +kernel
theorem dX11_chains_10 : decode cX11_chains 10 = .ok (.istore_n 1, 1) := by decide +kernel
theorem dX11_chains_11 : decode cX11_chains 11 = .ok (.iconst 0, 1) := by decide +kernel
theorem dX11_chains_12 : decode cX11_chains 12 = .ok (.istore_n 2, 1) := by decide +kernel
theorem dX11_chains_13 : decode cX11_chains 13 = .ok (.iload_n 2, 1) := by decide +kernel
theorem dX11_chains_14 : decode cX11_chains 14 = .ok (.aload_n 0, 1) := by decide +kernel
theorem dX11_chains_15 : decode cX11_chains 15 = .ok (.getfield 7, 3) := by decide +kernel
theorem dX11_chains_18 : decode cX11_chains 18 = .ok (.bipush 9, 2) := by decide +kernel
theorem dX11_chains_20 : decode cX11_chains 20 = .ok (.iaload, 1) := by decide +kernel
theorem dX11_chains_21 : decode cX11_chains 21 = .ok (.if_icmp .ge 27, 3) := by decide +kernel
theorem dX11_chains_24 : decode cX11_chains 24 = .ok (.iload_n 1, 1) := by decide +kernel
theorem dX11_chains_25 : decode cX11_chains 25 = .ok (.aload_n 0, 1) := by decide +kernel
theorem dX11_chains_26 : decode cX11_chains 26 = .ok (.getfield 22, 3) := by decide +kernel
theorem dX11_chains_29 : decode cX11_chains 29 = .ok (.iload_n 2, 1) := by decide +kernel
theorem dX11_chains_30 : decode cX11_chains 30 = .ok (.iaload, 1) := by decide +kernel
theorem dX11_chains_31 : decode cX11_chains 31 = .ok (.iconst (-1), 1) := by decide +kernel
theorem dX11_chains_32 : decode cX11_chains 32 = .ok (.if_icmp .ne 7, 3) := by decide +kernel
theorem dX11_chains_35 : decode cX11_chains 35 = .ok (.iconst 1, 1) := by decide +kernel
theorem dX11_chains_36 : decode cX11_chains 36 = .ok (.goto 4, 3) := by decide +kernel
theorem dX11_chains_39 : decode cX11_chains 39 = .ok (.iconst 0, 1) := by decide +kernel
theorem dX11_chains_40 : decode cX11_chains 40 = .ok (.iadd, 1) := by decide +kernel
theorem dX11_chains_41 : decode cX11_chains 41 = .ok (.istore_n 1, 1) := by decide +kernel
theorem dX11_chains_42 : decode cX11_chains 42 = .ok (.iinc 2 1, 3) := by decide +kernel
theorem dX11_chains_45 : decode cX11_chains 45 = .ok (.goto (-32), 3) := by decide +kernel
theorem dX11_chains_48 : decode cX11_chains 48 = .ok (.iload_n 1, 1) := by decide +kernel
theorem dX11_chains_49 : decode cX11_chains 49 = .ok (.ireturn, 1) := by decide +kernel
set_option maxRecDepth 20000 in
theorem ggX11_hopInterval_X11_isEvent : GoodIn wsX11_hopInterval wsX11_isEvent := goodIn_r _ [7, 1, 8, 9, 6, 10, 35, 36, 37, 38, 39, 40, 41, 42, 43, 44, 45, 46, 47, 48] (by decide +kernel) (by decide +kernel)
set_option maxRecDepth 20000 in
theorem gX11_hopInterval_X11_isEvent : GoodIn wsX11_hopInterval (wsV RX11 165 RX11 yX11_isEvent wsX11_isEvent) := goodIn_app (goodIn_of _ (by decide +kernel)) ggX11_hopInterval_X11_isEvent
set_option maxRecDepth 20000 in
theorem ggX11_hopInterval_X11_goes : GoodIn wsX11_hopInterval wsX11_goes := goodIn_r _ [14, 15, 35, 36, 37, 38, 39, 40, 41, 42, 43, 44, 45, 46, 47, 48] (by decide +kernel) (by decide +kernel)
set_option maxRecDepth 20000 in
theorem gX11_hopInterval_X11_goes : GoodIn wsX11_hopInterval (wsV RX11 57 RX11 yX11_goes wsX11_goes) := goodIn_app (goodIn_of _ (by decide +kernel)) ggX11_hopInterval_X11_goes
set_option maxRecDepth 20000 in
theorem ggX11_hopInterval_X11_laysChains : GoodIn wsX11_hopInterval wsX11_laysChains := goodIn_r _ [19, 1, 20, 21, 22, 6, 23, 8, 9, 10, 24, 25, 26, 35, 36, 37, 38, 39, 40, 41, 42, 43, 44, 45, 46, 47, 48] (by decide +kernel) (by decide +kernel)
set_option maxRecDepth 20000 in
theorem gX11_hopInterval_X11_laysChains : GoodIn wsX11_hopInterval (wsV RX11 170 RX11 yX11_laysChains wsX11_laysChains) := goodIn_app (goodIn_of _ (by decide +kernel)) ggX11_hopInterval_X11_laysChains
set_option maxRecDepth 20000 in
theorem ggX11_hopInterval_X11_lengthOf : GoodIn wsX11_hopInterval wsX11_lengthOf := goodIn_r _ [30, 2, 1, 31, 32, 33, 6, 34, 20, 35, 36, 37, 38, 39, 40, 41, 42, 43, 44, 45, 46, 47, 48] (by decide +kernel) (by decide +kernel)
set_option maxRecDepth 20000 in
theorem gX11_hopInterval_X11_lengthOf : GoodIn wsX11_hopInterval (wsV RX11 179 RX11 yX11_lengthOf wsX11_lengthOf) := goodIn_app (goodIn_of _ (by decide +kernel)) ggX11_hopInterval_X11_lengthOf
set_option maxRecDepth 20000 in
theorem ggX11_hopInterval_X11_eventAt : GoodIn wsX11_hopInterval wsX11_eventAt := goodIn_r _ [23] (by decide +kernel) (by decide +kernel)
set_option maxRecDepth 20000 in
theorem gX11_hopInterval_X11_eventAt : GoodIn wsX11_hopInterval (va_wsS RX11 126 yX11_eventAt wsX11_eventAt) := goodIn_app (goodIn_of _ (by decide +kernel)) ggX11_hopInterval_X11_eventAt
set_option maxRecDepth 20000 in
theorem ggX11_hopInterval_X11_firstOf : GoodIn wsX11_hopInterval wsX11_firstOf := goodIn_r _ [34, 20, 35, 36, 37, 38, 39, 40, 41, 42, 43, 44, 45, 46, 47, 48] (by decide +kernel) (by decide +kernel)
set_option maxRecDepth 20000 in
theorem gX11_hopInterval_X11_firstOf : GoodIn wsX11_hopInterval (wsV RX11 162 RX11 yX11_firstOf wsX11_firstOf) := goodIn_app (goodIn_of _ (by decide +kernel)) ggX11_hopInterval_X11_firstOf
theorem dX11_hopInterval_0 : decode cX11_hopInterval 0 = .ok (.aload_n 0, 1) := by decide +kernel
theorem dX11_hopInterval_1 : decode cX11_hopInterval 1 = .ok (.aload_n 0, 1) := by decide +kernel
theorem dX11_hopInterval_2 : decode cX11_hopInterval 2 = .ok (.iload_n 1, 1) := by decide +kernel
theorem dX11_hopInterval_3 : decode cX11_hopInterval 3 = .ok (.invokevirtual 165, 3) := by decide +kernel
theorem dX11_hopInterval_6 : decode cX11_hopInterval 6 = .ok (.iconst 1, 1) := by decide +kernel
theorem dX11_hopInterval_7 : decode cX11_hopInterval 7 = .ok (.invokevirtual 57, 3) := by decide +kernel
theorem dX11_hopInterval_10 : decode cX11_hopInterval 10 = .ok (.ifCond .ne 5, 3) := by decide +kernel
theorem dX11_hopInterval_13 : decode cX11_hopInterval 13 = .ok (.dconst 0, 1) := by decide +kernel
theorem dX11_hopInterval_14 : decode cX11_hopInterval 14 = .ok (.dreturn, 1) := by decide +kernel
theorem dX11_hopInterval_15 : decode cX11_hopInterval 15 = .ok (.aload_n 0, 1) := by decide +kernel
theorem dX11_hopInterval_16 : decode cX11_hopInterval 16 = .ok (.invokevirtual 170, 3) := by decide +kernel
theorem dX11_hopInterval_19 : decode cX11_hopInterval 19 = .ok (.aload_n 0, 1) := by decide +kernel
theorem dX11_hopInterval_20 : decode cX11_hopInterval 20 = .ok (.iload_n 1, 1) := by decide +kernel
theorem dX11_hopInterval_21 : decode cX11_hopInterval 21 = .ok (.invokevirtual 179, 3) := by decide +kernel
theorem dX11_hopInterval_24 : decode cX11_hopInterval 24 = .ok (.istore_n 2, 1) := by decide +kernel
theorem dX11_hopInterval_25 : decode cX11_hopInterval 25 = .ok (.aload_n 0, 1) := by decide +kernel
theorem dX11_hopInterval_26 : decode cX11_hopInterval 26 = .ok (.getfield 7, 3) := by decide +kernel
theorem dX11_hopInterval_29 : decode cX11_hopInterval 29 = .ok (.aload_n 0, 1) := by decide +kernel
theorem dX11_hopInterval_30 : decode cX11_hopInterval 30 = .ok (.getfield 176, 3) := by decide +kernel
theorem dX11_hopInterval_33 : decode cX11_hopInterval 33 = .ok (.iconst 1, 1) := by decide +kernel
theorem dX11_hopInterval_34 : decode cX11_hopInterval 34 = .ok (.invokestatic 126, 3) := by decide +kernel
theorem dX11_hopInterval_37 : decode cX11_hopInterval 37 = .ok (.iaload, 1) := by decide +kernel
theorem dX11_hopInterval_38 : decode cX11_hopInterval 38 = .ok (.aload_n 0, 1) := by decide +kernel
theorem dX11_hopInterval_39 : decode cX11_hopInterval 39 = .ok (.getfield 7, 3) := by decide +kernel
theorem dX11_hopInterval_42 : decode cX11_hopInterval 42 = .ok (.aload_n 0, 1) := by decide +kernel
theorem dX11_hopInterval_43 : decode cX11_hopInterval 43 = .ok (.iload_n 1, 1) := by decide +kernel
theorem dX11_hopInterval_44 : decode cX11_hopInterval 44 = .ok (.invokevirtual 162, 3) := by decide +kernel
theorem dX11_hopInterval_47 : decode cX11_hopInterval 47 = .ok (.iconst 1, 1) := by decide +kernel
theorem dX11_hopInterval_48 : decode cX11_hopInterval 48 = .ok (.invokestatic 126, 3) := by decide +kernel
theorem dX11_hopInterval_51 : decode cX11_hopInterval 51 = .ok (.iaload, 1) := by decide +kernel
theorem dX11_hopInterval_52 : decode cX11_hopInterval 52 = .ok (.isub, 1) := by decide +kernel
theorem dX11_hopInterval_53 : decode cX11_hopInterval 53 = .ok (.i2d, 1) := by decide +kernel
theorem dX11_hopInterval_54 : decode cX11_hopInterval 54 = .ok (.dstore_n 3, 1) := by decide +kernel
theorem dX11_hopInterval_55 : decode cX11_hopInterval 55 = .ok (.iload_n 2, 1) := by decide +kernel
theorem dX11_hopInterval_56 : decode cX11_hopInterval 56 = .ok (.iconst 1, 1) := by decide +kernel
theorem dX11_hopInterval_57 : decode cX11_hopInterval 57 = .ok (.isub, 1) := by decide +kernel
theorem dX11_hopInterval_58 : decode cX11_hopInterval 58 = .ok (.i2d, 1) := by decide +kernel
theorem dX11_hopInterval_59 : decode cX11_hopInterval 59 = .ok (.dstore 5, 2) := by decide +kernel
theorem dX11_hopInterval_61 : decode cX11_hopInterval 61 = .ok (.iload_n 2, 1) := by decide +kernel
theorem dX11_hopInterval_62 : decode cX11_hopInterval 62 = .ok (.iconst 1, 1) := by decide +kernel
theorem dX11_hopInterval_63 : decode cX11_hopInterval 63 = .ok (.if_icmp .ne 7, 3) := by decide +kernel
theorem dX11_hopInterval_66 : decode cX11_hopInterval 66 = .ok (.dconst 0, 1) := by decide +kernel
theorem dX11_hopInterval_67 : decode cX11_hopInterval 67 = .ok (.goto 7, 3) := by decide +kernel
theorem dX11_hopInterval_70 : decode cX11_hopInterval 70 = .ok (.dload_n 3, 1) := by decide +kernel
theorem dX11_hopInterval_71 : decode cX11_hopInterval 71 = .ok (.dload 5, 2) := by decide +kernel
theorem dX11_hopInterval_73 : decode cX11_hopInterval 73 = .ok (.ddiv, 1) := by decide +kernel
theorem dX11_hopInterval_74 : decode cX11_hopInterval 74 = .ok (.dreturn, 1) := by decide +kernel
set_option maxRecDepth 20000 in
theorem ggX11_undo_X11_goes : GoodIn wsX11_undo wsX11_goes := goodIn_r _ [8, 9, 10, 11, 12, 13, 14, 15, 16, 17, 18, 19, 20, 21, 22, 23] (by decide +kernel) (by decide +kernel)
set_option maxRecDepth 20000 in
theorem gX11_undo_X11_goes : GoodIn wsX11_undo (wsV RX11 57 RX11 yX11_goes wsX11_goes) := goodIn_app (goodIn_of _ (by decide +kernel)) ggX11_undo_X11_goes
theorem dX11_undo_0 : decode cX11_undo 0 = .ok (.aload_n 0, 1) := by decide +kernel
theorem dX11_undo_1 : decode cX11_undo 1 = .ok (.aload_n 0, 1) := by decide +kernel
theorem dX11_undo_2 : decode cX11_undo 2 = .ok (.getfield 32, 3) := by decide +kernel
theorem dX11_undo_5 : decode cX11_undo 5 = .ok (.ifCond .le 7, 3) := by decide +kernel
theorem dX11_undo_8 : decode cX11_undo 8 = .ok (.iconst 1, 1) := by decide +kernel
theorem dX11_undo_9 : decode cX11_undo 9 = .ok (.goto 4, 3) := by decide +kernel
theorem dX11_undo_12 : decode cX11_undo 12 = .ok (.iconst 0, 1) := by decide +kernel
theorem dX11_undo_13 : decode cX11_undo 13 = .ok (.iconst 1, 1) := by decide +kernel
theorem dX11_undo_14 : decode cX11_undo 14 = .ok (.invokevirtual 57, 3) := by decide +kernel
theorem dX11_undo_17 : decode cX11_undo 17 = .ok (.ifCond .ne 5, 3) := by decide +kernel
theorem dX11_undo_20 : decode cX11_undo 20 = .ok (.iconst 0, 1) := by decide +kernel
theorem dX11_undo_21 : decode cX11_undo 21 = .ok (.ireturn, 1) := by decide +kernel
theorem dX11_undo_22 : decode cX11_undo 22 = .ok (.aload_n 0, 1) := by decide +kernel
theorem dX11_undo_23 : decode cX11_undo 23 = .ok (.dup, 1) := by decide +kernel
theorem dX11_undo_24 : decode cX11_undo 24 = .ok (.getfield 32, 3) := by decide +kernel
theorem dX11_undo_27 : decode cX11_undo 27 = .ok (.iconst 1, 1) := by decide +kernel
theorem dX11_undo_28 : decode cX11_undo 28 = .ok (.isub, 1) := by decide +kernel
theorem dX11_undo_29 : decode cX11_undo 29 = .ok (.putfield 32, 3) := by decide +kernel
theorem dX11_undo_32 : decode cX11_undo 32 = .ok (.iconst 0, 1) := by decide +kernel
theorem dX11_undo_33 : decode cX11_undo 33 = .ok (.istore_n 1, 1) := by decide +kernel
theorem dX11_undo_34 : decode cX11_undo 34 = .ok (.iload_n 1, 1) := by decide +kernel
theorem dX11_undo_35 : decode cX11_undo 35 = .ok (.sipush 804, 3) := by decide +kernel
theorem dX11_undo_38 : decode cX11_undo 38 = .ok (.if_icmp .ge 30, 3) := by decide +kernel
theorem dX11_undo_41 : decode cX11_undo 41 = .ok (.aload_n 0, 1) := by decide +kernel
theorem dX11_undo_42 : decode cX11_undo 42 = .ok (.getfield 7, 3) := by decide +kernel
theorem dX11_undo_45 : decode cX11_undo 45 = .ok (.iload_n 1, 1) := by decide +kernel
theorem dX11_undo_46 : decode cX11_undo 46 = .ok (.aload_n 0, 1) := by decide +kernel
theorem dX11_undo_47 : decode cX11_undo 47 = .ok (.getfield 13, 3) := by decide +kernel
theorem dX11_undo_50 : decode cX11_undo 50 = .ok (.sipush 804, 3) := by decide +kernel
theorem dX11_undo_53 : decode cX11_undo 53 = .ok (.aload_n 0, 1) := by decide +kernel
theorem dX11_undo_54 : decode cX11_undo 54 = .ok (.getfield 32, 3) := by decide +kernel
theorem dX11_undo_57 : decode cX11_undo 57 = .ok (.imul, 1) := by decide +kernel
theorem dX11_undo_58 : decode cX11_undo 58 = .ok (.iload_n 1, 1) := by decide +kernel
theorem dX11_undo_59 : decode cX11_undo 59 = .ok (.iadd, 1) := by decide +kernel
theorem dX11_undo_60 : decode cX11_undo 60 = .ok (.iaload, 1) := by decide +kernel
theorem dX11_undo_61 : decode cX11_undo 61 = .ok (.iastore, 1) := by decide +kernel
theorem dX11_undo_62 : decode cX11_undo 62 = .ok (.iinc 1 1, 3) := by decide +kernel
theorem dX11_undo_65 : decode cX11_undo 65 = .ok (.goto (-31), 3) := by decide +kernel
theorem dX11_undo_68 : decode cX11_undo 68 = .ok (.aload_n 0, 1) := by decide +kernel
theorem dX11_undo_69 : decode cX11_undo 69 = .ok (.getfield 32, 3) := by decide +kernel
theorem dX11_undo_72 : decode cX11_undo 72 = .ok (.ireturn, 1) := by decide +kernel
theorem dX11_sums_0 : decode cX11_sums 0 = .ok (.lload_n 1, 1) := by decide +kernel
theorem dX11_sums_1 : decode cX11_sums 1 = .ok (.lstore 5, 2) := by decide +kernel
theorem dX11_sums_3 : decode cX11_sums 3 = .ok (.iconst 0, 1) := by decide +kernel
theorem dX11_sums_4 : decode cX11_sums 4 = .ok (.istore 7, 2) := by decide +kernel
theorem dX11_sums_6 : decode cX11_sums 6 = .ok (.iload 7, 2) := by decide +kernel
theorem dX11_sums_8 : decode cX11_sums 8 = .ok (.iload 4, 2) := by decide +kernel
theorem dX11_sums_10 : decode cX11_sums 10 = .ok (.if_icmp .ge 28, 3) := by decide +kernel
theorem dX11_sums_13 : decode cX11_sums 13 = .ok (.ldc2_w 35, 3) := by decide +kernel
theorem dX11_sums_16 : decode cX11_sums 16 = .ok (.lload 5, 2) := by decide +kernel
theorem dX11_sums_18 : decode cX11_sums 18 = .ok (.lmul, 1) := by decide +kernel
theorem dX11_sums_19 : decode cX11_sums 19 = .ok (.aload_n 0, 1) := by decide +kernel
theorem dX11_sums_20 : decode cX11_sums 20 = .ok (.getfield 7, 3) := by decide +kernel
theorem dX11_sums_23 : decode cX11_sums 23 = .ok (.iload_n 3, 1) := by decide +kernel
theorem dX11_sums_24 : decode cX11_sums 24 = .ok (.iload 7, 2) := by decide +kernel
theorem dX11_sums_26 : decode cX11_sums 26 = .ok (.iadd, 1) := by decide +kernel
theorem dX11_sums_27 : decode cX11_sums 27 = .ok (.iaload, 1) := by decide +kernel
theorem dX11_sums_28 : decode cX11_sums 28 = .ok (.i2l, 1) := by decide +kernel
theorem dX11_sums_29 : decode cX11_sums 29 = .ok (.ladd, 1) := by decide +kernel
theorem dX11_sums_30 : decode cX11_sums 30 = .ok (.lstore 5, 2) := by decide +kernel
theorem dX11_sums_32 : decode cX11_sums 32 = .ok (.iinc 7 1, 3) := by decide +kernel
theorem dX11_sums_35 : decode cX11_sums 35 = .ok (.goto (-29), 3) := by decide +kernel
theorem dX11_sums_38 : decode cX11_sums 38 = .ok (.lload 5, 2) := by decide +kernel
theorem dX11_sums_40 : decode cX11_sums 40 = .ok (.lreturn, 1) := by decide +kernel
set_option maxRecDepth 20000 in
theorem ggX11_digest_X11_sums : GoodIn wsX11_digest wsX11_sums := goodIn_r _ [11, 5, 4, 42, 43, 44, 45, 46, 47, 48, 49, 50, 51, 52, 53, 54, 55] (by decide +kernel) (by decide +kernel)
set_option maxRecDepth 20000 in
theorem gX11_digest_X11_sums : GoodIn wsX11_digest (wsV RX11 184 RX11 yX11_sums wsX11_sums) := goodIn_app (goodIn_of _ (by decide +kernel)) ggX11_digest_X11_sums
set_option maxRecDepth 20000 in
theorem ggX11_digest_X11_stepNow : GoodIn wsX11_digest wsX11_stepNow := goodIn_r _ [15, 4, 42, 43, 44, 45, 46, 47, 48, 49, 50, 51, 52, 53, 54, 55] (by decide +kernel) (by decide +kernel)
set_option maxRecDepth 20000 in
theorem gX11_digest_X11_stepNow : GoodIn wsX11_digest (wsV RX11 151 RX11 yX11_stepNow wsX11_stepNow) := goodIn_app (goodIn_of _ (by decide +kernel)) ggX11_digest_X11_stepNow
set_option maxRecDepth 20000 in
theorem ggX11_digest_X11_averageOf : GoodIn wsX11_digest wsX11_averageOf := goodIn_r _ [19, 4, 42, 43, 44, 45, 46, 47, 48, 49, 50, 51, 52, 53, 54, 55] (by decide +kernel) (by decide +kernel)
set_option maxRecDepth 20000 in
theorem gX11_digest_X11_averageOf : GoodIn wsX11_digest (wsV RX11 156 RX11 yX11_averageOf wsX11_averageOf) := goodIn_app (goodIn_of _ (by decide +kernel)) ggX11_digest_X11_averageOf
set_option maxRecDepth 20000 in
theorem ggX11_digest_X11_laysChains : GoodIn wsX11_digest wsX11_laysChains := goodIn_r _ [23, 4, 24, 25, 26, 10, 27, 28, 29, 30, 31, 32, 33, 42, 43, 44, 45, 46, 47, 48, 49, 50, 51, 52, 53, 54, 55] (by decide +kernel) (by decide +kernel)
set_option maxRecDepth 20000 in
theorem gX11_digest_X11_laysChains : GoodIn wsX11_digest (wsV RX11 170 RX11 yX11_laysChains wsX11_laysChains) := goodIn_app (goodIn_of _ (by decide +kernel)) ggX11_digest_X11_laysChains
set_option maxRecDepth 20000 in
theorem ggX11_digest_X11_eventNow : GoodIn wsX11_digest wsX11_eventNow := goodIn_r _ [37, 4, 24, 25, 26, 10, 27, 38, 39, 40, 41, 42, 43, 44, 45, 46, 47, 48, 49, 50, 51, 52, 53, 54, 55] (by decide +kernel) (by decide +kernel)
set_option maxRecDepth 20000 in
theorem gX11_digest_X11_eventNow : GoodIn wsX11_digest (wsV RX11 173 RX11 yX11_eventNow wsX11_eventNow) := goodIn_app (goodIn_of _ (by decide +kernel)) ggX11_digest_X11_eventNow
theorem dX11_digest_0 : decode cX11_digest 0 = .ok (.aload_n 0, 1) := by decide +kernel
theorem dX11_digest_1 : decode cX11_digest 1 = .ok (.iconst 0, 1) := by decide +kernel
theorem dX11_digest_2 : decode cX11_digest 2 = .ok (.putfield 28, 3) := by decide +kernel
theorem dX11_digest_5 : decode cX11_digest 5 = .ok (.aload_n 0, 1) := by decide +kernel
theorem dX11_digest_6 : decode cX11_digest 6 = .ok (.ldc2_w 182, 3) := by decide +kernel
theorem dX11_digest_9 : decode cX11_digest 9 = .ok (.aload_n 0, 1) := by decide +kernel
theorem dX11_digest_10 : decode cX11_digest 10 = .ok (.getfield 70, 3) := by decide +kernel
theorem dX11_digest_13 : decode cX11_digest 13 = .ok (.i2l, 1) := by decide +kernel
theorem dX11_digest_14 : decode cX11_digest 14 = .ok (.ladd, 1) := by decide +kernel
theorem dX11_digest_15 : decode cX11_digest 15 = .ok (.iconst 0, 1) := by decide +kernel
theorem dX11_digest_16 : decode cX11_digest 16 = .ok (.bipush 6, 2) := by decide +kernel
theorem dX11_digest_18 : decode cX11_digest 18 = .ok (.invokevirtual 184, 3) := by decide +kernel
theorem dX11_digest_21 : decode cX11_digest 21 = .ok (.lstore_n 1, 1) := by decide +kernel
theorem dX11_digest_22 : decode cX11_digest 22 = .ok (.aload_n 0, 1) := by decide +kernel
theorem dX11_digest_23 : decode cX11_digest 23 = .ok (.lload_n 1, 1) := by decide +kernel
theorem dX11_digest_24 : decode cX11_digest 24 = .ok (.bipush 10, 2) := by decide +kernel
theorem dX11_digest_26 : decode cX11_digest 26 = .ok (.bipush 6, 2) := by decide +kernel
theorem dX11_digest_28 : decode cX11_digest 28 = .ok (.aload_n 0, 1) := by decide +kernel
theorem dX11_digest_29 : decode cX11_digest 29 = .ok (.getfield 7, 3) := by decide +kernel
theorem dX11_digest_32 : decode cX11_digest 32 = .ok (.iconst 5, 1) := by decide +kernel
theorem dX11_digest_33 : decode cX11_digest 33 = .ok (.iaload, 1) := by decide +kernel
theorem dX11_digest_34 : decode cX11_digest 34 = .ok (.imul, 1) := by decide +kernel
theorem dX11_digest_35 : decode cX11_digest 35 = .ok (.invokevirtual 184, 3) := by decide +kernel
theorem dX11_digest_38 : decode cX11_digest 38 = .ok (.lstore_n 1, 1) := by decide +kernel
theorem dX11_digest_39 : decode cX11_digest 39 = .ok (.aload_n 0, 1) := by decide +kernel
theorem dX11_digest_40 : decode cX11_digest 40 = .ok (.ldc2_w 35, 3) := by decide +kernel
theorem dX11_digest_43 : decode cX11_digest 43 = .ok (.lload_n 1, 1) := by decide +kernel
theorem dX11_digest_44 : decode cX11_digest 44 = .ok (.lmul, 1) := by decide +kernel
theorem dX11_digest_45 : decode cX11_digest 45 = .ok (.aload_n 0, 1) := by decide +kernel
theorem dX11_digest_46 : decode cX11_digest 46 = .ok (.getfield 7, 3) := by decide +kernel
theorem dX11_digest_49 : decode cX11_digest 49 = .ok (.bipush 6, 2) := by decide +kernel
theorem dX11_digest_51 : decode cX11_digest 51 = .ok (.iaload, 1) := by decide +kernel
theorem dX11_digest_52 : decode cX11_digest 52 = .ok (.i2l, 1) := by decide +kernel
theorem dX11_digest_53 : decode cX11_digest 53 = .ok (.ladd, 1) := by decide +kernel
theorem dX11_digest_54 : decode cX11_digest 54 = .ok (.bipush 70, 2) := by decide +kernel
theorem dX11_digest_56 : decode cX11_digest 56 = .ok (.iconst 3, 1) := by decide +kernel
theorem dX11_digest_57 : decode cX11_digest 57 = .ok (.aload_n 0, 1) := by decide +kernel
theorem dX11_digest_58 : decode cX11_digest 58 = .ok (.getfield 7, 3) := by decide +kernel
theorem dX11_digest_61 : decode cX11_digest 61 = .ok (.bipush 6, 2) := by decide +kernel
theorem dX11_digest_63 : decode cX11_digest 63 = .ok (.iaload, 1) := by decide +kernel
theorem dX11_digest_64 : decode cX11_digest 64 = .ok (.imul, 1) := by decide +kernel
theorem dX11_digest_65 : decode cX11_digest 65 = .ok (.invokevirtual 184, 3) := by decide +kernel
theorem dX11_digest_68 : decode cX11_digest 68 = .ok (.lstore_n 1, 1) := by decide +kernel
theorem dX11_digest_69 : decode cX11_digest 69 = .ok (.ldc2_w 35, 3) := by decide +kernel
theorem dX11_digest_72 : decode cX11_digest 72 = .ok (.lload_n 1, 1) := by decide +kernel
theorem dX11_digest_73 : decode cX11_digest 73 = .ok (.lmul, 1) := by decide +kernel
theorem dX11_digest_74 : decode cX11_digest 74 = .ok (.aload_n 0, 1) := by decide +kernel
theorem dX11_digest_75 : decode cX11_digest 75 = .ok (.invokevirtual 151, 3) := by decide +kernel
theorem dX11_digest_78 : decode cX11_digest 78 = .ok (.i2l, 1) := by decide +kernel
theorem dX11_digest_79 : decode cX11_digest 79 = .ok (.ladd, 1) := by decide +kernel
theorem dX11_digest_80 : decode cX11_digest 80 = .ok (.lstore_n 1, 1) := by decide +kernel
theorem dX11_digest_81 : decode cX11_digest 81 = .ok (.iconst 0, 1) := by decide +kernel
theorem dX11_digest_82 : decode cX11_digest 82 = .ok (.istore_n 3, 1) := by decide +kernel
theorem dX11_digest_83 : decode cX11_digest 83 = .ok (.iload_n 3, 1) := by decide +kernel
theorem dX11_digest_84 : decode cX11_digest 84 = .ok (.bipush 32, 2) := by decide +kernel
theorem dX11_digest_86 : decode cX11_digest 86 = .ok (.if_icmp .ge 52, 3) := by decide +kernel
theorem dX11_digest_89 : decode cX11_digest 89 = .ok (.aload_n 0, 1) := by decide +kernel
theorem dX11_digest_90 : decode cX11_digest 90 = .ok (.ldc2_w 35, 3) := by decide +kernel
theorem dX11_digest_93 : decode cX11_digest 93 = .ok (.lload_n 1, 1) := by decide +kernel
theorem dX11_digest_94 : decode cX11_digest 94 = .ok (.lmul, 1) := by decide +kernel
theorem dX11_digest_95 : decode cX11_digest 95 = .ok (.aload_n 0, 1) := by decide +kernel
theorem dX11_digest_96 : decode cX11_digest 96 = .ok (.getfield 7, 3) := by decide +kernel
theorem dX11_digest_99 : decode cX11_digest 99 = .ok (.bipush 106, 2) := by decide +kernel
theorem dX11_digest_101 : decode cX11_digest 101 = .ok (.iload_n 3, 1) := by decide +kernel
theorem dX11_digest_102 : decode cX11_digest 102 = .ok (.iadd, 1) := by decide +kernel
theorem dX11_digest_103 : decode cX11_digest 103 = .ok (.iaload, 1) := by decide +kernel
theorem dX11_digest_104 : decode cX11_digest 104 = .ok (.i2l, 1) := by decide +kernel
theorem dX11_digest_105 : decode cX11_digest 105 = .ok (.ladd, 1) := by decide +kernel
theorem dX11_digest_106 : decode cX11_digest 106 = .ok (.sipush 138, 3) := by decide +kernel
theorem dX11_digest_109 : decode cX11_digest 109 = .ok (.bipush 13, 2) := by decide +kernel
theorem dX11_digest_111 : decode cX11_digest 111 = .ok (.iload_n 3, 1) := by decide +kernel
theorem dX11_digest_112 : decode cX11_digest 112 = .ok (.imul, 1) := by decide +kernel
theorem dX11_digest_113 : decode cX11_digest 113 = .ok (.iadd, 1) := by decide +kernel
theorem dX11_digest_114 : decode cX11_digest 114 = .ok (.iconst 4, 1) := by decide +kernel
theorem dX11_digest_115 : decode cX11_digest 115 = .ok (.invokevirtual 184, 3) := by decide +kernel
theorem dX11_digest_118 : decode cX11_digest 118 = .ok (.lstore_n 1, 1) := by decide +kernel
theorem dX11_digest_119 : decode cX11_digest 119 = .ok (.ldc2_w 35, 3) := by decide +kernel
theorem dX11_digest_122 : decode cX11_digest 122 = .ok (.lload_n 1, 1) := by decide +kernel
theorem dX11_digest_123 : decode cX11_digest 123 = .ok (.lmul, 1) := by decide +kernel
theorem dX11_digest_124 : decode cX11_digest 124 = .ok (.aload_n 0, 1) := by decide +kernel
theorem dX11_digest_125 : decode cX11_digest 125 = .ok (.iload_n 3, 1) := by decide +kernel
theorem dX11_digest_126 : decode cX11_digest 126 = .ok (.invokevirtual 156, 3) := by decide +kernel
theorem dX11_digest_129 : decode cX11_digest 129 = .ok (.i2l, 1) := by decide +kernel
theorem dX11_digest_130 : decode cX11_digest 130 = .ok (.ladd, 1) := by decide +kernel
theorem dX11_digest_131 : decode cX11_digest 131 = .ok (.lstore_n 1, 1) := by decide +kernel
theorem dX11_digest_132 : decode cX11_digest 132 = .ok (.iinc 3 1, 3) := by decide +kernel
theorem dX11_digest_135 : decode cX11_digest 135 = .ok (.goto (-52), 3) := by decide +kernel
theorem dX11_digest_138 : decode cX11_digest 138 = .ok (.ldc2_w 35, 3) := by decide +kernel
theorem dX11_digest_141 : decode cX11_digest 141 = .ok (.lload_n 1, 1) := by decide +kernel
theorem dX11_digest_142 : decode cX11_digest 142 = .ok (.lmul, 1) := by decide +kernel
theorem dX11_digest_143 : decode cX11_digest 143 = .ok (.aload_n 0, 1) := by decide +kernel
theorem dX11_digest_144 : decode cX11_digest 144 = .ok (.getfield 7, 3) := by decide +kernel
theorem dX11_digest_147 : decode cX11_digest 147 = .ok (.bipush 9, 2) := by decide +kernel
theorem dX11_digest_149 : decode cX11_digest 149 = .ok (.iaload, 1) := by decide +kernel
theorem dX11_digest_150 : decode cX11_digest 150 = .ok (.i2l, 1) := by decide +kernel
theorem dX11_digest_151 : decode cX11_digest 151 = .ok (.ladd, 1) := by decide +kernel
theorem dX11_digest_152 : decode cX11_digest 152 = .ok (.lstore_n 1, 1) := by decide +kernel
theorem dX11_digest_153 : decode cX11_digest 153 = .ok (.aload_n 0, 1) := by decide +kernel
theorem dX11_digest_154 : decode cX11_digest 154 = .ok (.invokevirtual 170, 3) := by decide +kernel
theorem dX11_digest_157 : decode cX11_digest 157 = .ok (.iconst 0, 1) := by decide +kernel
theorem dX11_digest_158 : decode cX11_digest 158 = .ok (.istore_n 3, 1) := by decide +kernel
theorem dX11_digest_159 : decode cX11_digest 159 = .ok (.iload_n 3, 1) := by decide +kernel
theorem dX11_digest_160 : decode cX11_digest 160 = .ok (.aload_n 0, 1) := by decide +kernel
theorem dX11_digest_161 : decode cX11_digest 161 = .ok (.getfield 7, 3) := by decide +kernel
theorem dX11_digest_164 : decode cX11_digest 164 = .ok (.bipush 9, 2) := by decide +kernel
theorem dX11_digest_166 : decode cX11_digest 166 = .ok (.iaload, 1) := by decide +kernel
theorem dX11_digest_167 : decode cX11_digest 167 = .ok (.if_icmp .ge 40, 3) := by decide +kernel
theorem dX11_digest_170 : decode cX11_digest 170 = .ok (.iconst 0, 1) := by decide +kernel
theorem dX11_digest_171 : decode cX11_digest 171 = .ok (.istore 4, 2) := by decide +kernel
theorem dX11_digest_173 : decode cX11_digest 173 = .ok (.iload 4, 2) := by decide +kernel
theorem dX11_digest_175 : decode cX11_digest 175 = .ok (.bipush 7, 2) := by decide +kernel
theorem dX11_digest_177 : decode cX11_digest 177 = .ok (.if_icmp .ge 24, 3) := by decide +kernel
theorem dX11_digest_180 : decode cX11_digest 180 = .ok (.ldc2_w 35, 3) := by decide +kernel
theorem dX11_digest_183 : decode cX11_digest 183 = .ok (.lload_n 1, 1) := by decide +kernel
theorem dX11_digest_184 : decode cX11_digest 184 = .ok (.lmul, 1) := by decide +kernel
theorem dX11_digest_185 : decode cX11_digest 185 = .ok (.aload_n 0, 1) := by decide +kernel
theorem dX11_digest_186 : decode cX11_digest 186 = .ok (.iload_n 3, 1) := by decide +kernel
theorem dX11_digest_187 : decode cX11_digest 187 = .ok (.iload 4, 2) := by decide +kernel
theorem dX11_digest_189 : decode cX11_digest 189 = .ok (.invokevirtual 173, 3) := by decide +kernel
theorem dX11_digest_192 : decode cX11_digest 192 = .ok (.i2l, 1) := by decide +kernel
theorem dX11_digest_193 : decode cX11_digest 193 = .ok (.ladd, 1) := by decide +kernel
theorem dX11_digest_194 : decode cX11_digest 194 = .ok (.lstore_n 1, 1) := by decide +kernel
theorem dX11_digest_195 : decode cX11_digest 195 = .ok (.iinc 4 1, 3) := by decide +kernel
theorem dX11_digest_198 : decode cX11_digest 198 = .ok (.goto (-25), 3) := by decide +kernel
theorem dX11_digest_201 : decode cX11_digest 201 = .ok (.iinc 3 1, 3) := by decide +kernel
theorem dX11_digest_204 : decode cX11_digest 204 = .ok (.goto (-45), 3) := by decide +kernel
theorem dX11_digest_207 : decode cX11_digest 207 = .ok (.ldc2_w 35, 3) := by decide +kernel
theorem dX11_digest_210 : decode cX11_digest 210 = .ok (.lload_n 1, 1) := by decide +kernel
theorem dX11_digest_211 : decode cX11_digest 211 = .ok (.lmul, 1) := by decide +kernel
theorem dX11_digest_212 : decode cX11_digest 212 = .ok (.aload_n 0, 1) := by decide +kernel
theorem dX11_digest_213 : decode cX11_digest 213 = .ok (.getfield 32, 3) := by decide +kernel
theorem dX11_digest_216 : decode cX11_digest 216 = .ok (.i2l, 1) := by decide +kernel
theorem dX11_digest_217 : decode cX11_digest 217 = .ok (.ladd, 1) := by decide +kernel
theorem dX11_digest_218 : decode cX11_digest 218 = .ok (.lreturn, 1) := by decide +kernel
theorem dJ9_abs_0f7a4_0 : decode cJ9_abs_0f7a4 0 = .ok (.iload_n 0, 1) := by decide +kernel
theorem dJ9_abs_0f7a4_1 : decode cJ9_abs_0f7a4 1 = .ok (.ifCond .ge 8, 3) := by decide +kernel
theorem dJ9_abs_0f7a4_4 : decode cJ9_abs_0f7a4 4 = .ok (.iload_n 0, 1) := by decide +kernel
theorem dJ9_abs_0f7a4_5 : decode cJ9_abs_0f7a4 5 = .ok (.ineg, 1) := by decide +kernel
theorem dJ9_abs_0f7a4_6 : decode cJ9_abs_0f7a4 6 = .ok (.goto 4, 3) := by decide +kernel
theorem dJ9_abs_0f7a4_9 : decode cJ9_abs_0f7a4 9 = .ok (.iload_n 0, 1) := by decide +kernel
theorem dJ9_abs_0f7a4_10 : decode cJ9_abs_0f7a4 10 = .ok (.ireturn, 1) := by decide +kernel
theorem dJ9_max_7cf53_0 : decode cJ9_max_7cf53 0 = .ok (.iload_n 0, 1) := by decide +kernel
theorem dJ9_max_7cf53_1 : decode cJ9_max_7cf53 1 = .ok (.iload_n 1, 1) := by decide +kernel
theorem dJ9_max_7cf53_2 : decode cJ9_max_7cf53 2 = .ok (.if_icmp .lt 7, 3) := by decide +kernel
theorem dJ9_max_7cf53_5 : decode cJ9_max_7cf53 5 = .ok (.iload_n 0, 1) := by decide +kernel
theorem dJ9_max_7cf53_6 : decode cJ9_max_7cf53 6 = .ok (.goto 4, 3) := by decide +kernel
theorem dJ9_max_7cf53_9 : decode cJ9_max_7cf53 9 = .ok (.iload_n 1, 1) := by decide +kernel
theorem dJ9_max_7cf53_10 : decode cJ9_max_7cf53 10 = .ok (.ireturn, 1) := by decide +kernel
theorem dJ9_min_7cf53_0 : decode cJ9_min_7cf53 0 = .ok (.iload_n 0, 1) := by decide +kernel
theorem dJ9_min_7cf53_1 : decode cJ9_min_7cf53 1 = .ok (.iload_n 1, 1) := by decide +kernel
theorem dJ9_min_7cf53_2 : decode cJ9_min_7cf53 2 = .ok (.if_icmp .gt 7, 3) := by decide +kernel
theorem dJ9_min_7cf53_5 : decode cJ9_min_7cf53 5 = .ok (.iload_n 0, 1) := by decide +kernel
theorem dJ9_min_7cf53_6 : decode cJ9_min_7cf53 6 = .ok (.goto 4, 3) := by decide +kernel
theorem dJ9_min_7cf53_9 : decode cJ9_min_7cf53 9 = .ok (.iload_n 1, 1) := by decide +kernel
theorem dJ9_min_7cf53_10 : decode cJ9_min_7cf53 10 = .ok (.ireturn, 1) := by decide +kernel
theorem dJ7_fill_53178_0 : decode cJ7_fill_53178 0 = .ok (.iconst 0, 1) := by decide +kernel
theorem dJ7_fill_53178_1 : decode cJ7_fill_53178 1 = .ok (.istore_n 2, 1) := by decide +kernel
theorem dJ7_fill_53178_2 : decode cJ7_fill_53178 2 = .ok (.aload_n 0, 1) := by decide +kernel
theorem dJ7_fill_53178_3 : decode cJ7_fill_53178 3 = .ok (.arraylength, 1) := by decide +kernel
theorem dJ7_fill_53178_4 : decode cJ7_fill_53178 4 = .ok (.istore_n 3, 1) := by decide +kernel
theorem dJ7_fill_53178_5 : decode cJ7_fill_53178 5 = .ok (.iload_n 2, 1) := by decide +kernel
theorem dJ7_fill_53178_6 : decode cJ7_fill_53178 6 = .ok (.iload_n 3, 1) := by decide +kernel
theorem dJ7_fill_53178_7 : decode cJ7_fill_53178 7 = .ok (.if_icmp .ge 13, 3) := by decide +kernel
theorem dJ7_fill_53178_10 : decode cJ7_fill_53178 10 = .ok (.aload_n 0, 1) := by decide +kernel
theorem dJ7_fill_53178_11 : decode cJ7_fill_53178 11 = .ok (.iload_n 2, 1) := by decide +kernel
theorem dJ7_fill_53178_12 : decode cJ7_fill_53178 12 = .ok (.iload_n 1, 1) := by decide +kernel
theorem dJ7_fill_53178_13 : decode cJ7_fill_53178 13 = .ok (.iastore, 1) := by decide +kernel
theorem dJ7_fill_53178_14 : decode cJ7_fill_53178 14 = .ok (.iinc 2 1, 3) := by decide +kernel
theorem dJ7_fill_53178_17 : decode cJ7_fill_53178 17 = .ok (.goto (-12), 3) := by decide +kernel
theorem dJ7_fill_53178_20 : decode cJ7_fill_53178 20 = .ok (.return_, 1) := by decide +kernel
