theorem dX0_init_0 : decode cX0_init 0 = .ok (.aload_n 0, 1) := by decide +kernel
theorem dX0_init_1 : decode cX0_init 1 = .ok (.invokespecial 3, 3) := by decide +kernel
theorem dX0_init_4 : decode cX0_init 4 = .ok (.aload_n 0, 1) := by decide +kernel
theorem dX0_init_5 : decode cX0_init 5 = .ok (.iconst 0, 1) := by decide +kernel
theorem dX0_init_6 : decode cX0_init 6 = .ok (.iload_n 1, 1) := by decide +kernel
theorem dX0_init_7 : decode cX0_init 7 = .ok (.invokestatic 9, 3) := by decide +kernel
theorem dX0_init_10 : decode cX0_init 10 = .ok (.newarray .int, 2) := by decide +kernel
theorem dX0_init_12 : decode cX0_init 12 = .ok (.putfield 15, 3) := by decide +kernel
theorem dX0_init_15 : decode cX0_init 15 = .ok (.return_, 1) := by decide +kernel
set_option maxRecDepth 20000 in
theorem ggX0_byteAt_X10_within : GoodIn wsX0_byteAt wsX10_within := goodIn_r _ [5] (by decide +kernel) (by decide +kernel)
set_option maxRecDepth 20000 in
theorem gX0_byteAt_X10_within_n25 : GoodIn wsX0_byteAt (wsX10_within) := ggX0_byteAt_X10_within
theorem dX0_byteAt_0 : decode cX0_byteAt 0 = .ok (.iload_n 1, 1) := by decide +kernel
theorem dX0_byteAt_1 : decode cX0_byteAt 1 = .ok (.aload_n 0, 1) := by decide +kernel
theorem dX0_byteAt_2 : decode cX0_byteAt 2 = .ok (.getfield 21, 3) := by decide +kernel
theorem dX0_byteAt_5 : decode cX0_byteAt 5 = .ok (.invokestatic 25, 3) := by decide +kernel
theorem dX0_byteAt_8 : decode cX0_byteAt 8 = .ok (.ifCond .eq 21, 3) := by decide +kernel
theorem dX0_byteAt_11 : decode cX0_byteAt 11 = .ok (.iload_n 1, 1) := by decide +kernel
theorem dX0_byteAt_12 : decode cX0_byteAt 12 = .ok (.aload_n 0, 1) := by decide +kernel
theorem dX0_byteAt_13 : decode cX0_byteAt 13 = .ok (.getfield 15, 3) := by decide +kernel
theorem dX0_byteAt_16 : decode cX0_byteAt 16 = .ok (.arraylength, 1) := by decide +kernel
theorem dX0_byteAt_17 : decode cX0_byteAt 17 = .ok (.if_icmp .ge 12, 3) := by decide +kernel
theorem dX0_byteAt_20 : decode cX0_byteAt 20 = .ok (.aload_n 0, 1) := by decide +kernel
theorem dX0_byteAt_21 : decode cX0_byteAt 21 = .ok (.getfield 15, 3) := by decide +kernel
theorem dX0_byteAt_24 : decode cX0_byteAt 24 = .ok (.iload_n 1, 1) := by decide +kernel
theorem dX0_byteAt_25 : decode cX0_byteAt 25 = .ok (.iaload, 1) := by decide +kernel
theorem dX0_byteAt_26 : decode cX0_byteAt 26 = .ok (.goto 4, 3) := by decide +kernel
theorem dX0_byteAt_29 : decode cX0_byteAt 29 = .ok (.iconst (-1), 1) := by decide +kernel
theorem dX0_byteAt_30 : decode cX0_byteAt 30 = .ok (.ireturn, 1) := by decide +kernel
set_option maxRecDepth 20000 in
theorem ggX0_put_X10_within : GoodIn wsX0_put wsX10_within := goodIn_r _ [5] (by decide +kernel) (by decide +kernel)
set_option maxRecDepth 20000 in
theorem gX0_put_X10_within_n25 : GoodIn wsX0_put (wsX10_within) := ggX0_put_X10_within
theorem dX0_put_0 : decode cX0_put 0 = .ok (.aload_n 0, 1) := by decide +kernel
theorem dX0_put_1 : decode cX0_put 1 = .ok (.getfield 21, 3) := by decide +kernel
theorem dX0_put_4 : decode cX0_put 4 = .ok (.aload_n 0, 1) := by decide +kernel
theorem dX0_put_5 : decode cX0_put 5 = .ok (.getfield 15, 3) := by decide +kernel
theorem dX0_put_8 : decode cX0_put 8 = .ok (.arraylength, 1) := by decide +kernel
theorem dX0_put_9 : decode cX0_put 9 = .ok (.invokestatic 25, 3) := by decide +kernel
theorem dX0_put_12 : decode cX0_put 12 = .ok (.ifCond .eq 23, 3) := by decide +kernel
theorem dX0_put_15 : decode cX0_put 15 = .ok (.aload_n 0, 1) := by decide +kernel
theorem dX0_put_16 : decode cX0_put 16 = .ok (.getfield 15, 3) := by decide +kernel
theorem dX0_put_19 : decode cX0_put 19 = .ok (.aload_n 0, 1) := by decide +kernel
theorem dX0_put_20 : decode cX0_put 20 = .ok (.getfield 21, 3) := by decide +kernel
theorem dX0_put_23 : decode cX0_put 23 = .ok (.iload_n 1, 1) := by decide +kernel
theorem dX0_put_24 : decode cX0_put 24 = .ok (.iastore, 1) := by decide +kernel
theorem dX0_put_25 : decode cX0_put 25 = .ok (.aload_n 0, 1) := by decide +kernel
theorem dX0_put_26 : decode cX0_put 26 = .ok (.dup, 1) := by decide +kernel
theorem dX0_put_27 : decode cX0_put 27 = .ok (.getfield 21, 3) := by decide +kernel
theorem dX0_put_30 : decode cX0_put 30 = .ok (.iconst 1, 1) := by decide +kernel
theorem dX0_put_31 : decode cX0_put 31 = .ok (.iadd, 1) := by decide +kernel
theorem dX0_put_32 : decode cX0_put 32 = .ok (.putfield 21, 3) := by decide +kernel
theorem dX0_put_35 : decode cX0_put 35 = .ok (.return_, 1) := by decide +kernel
set_option maxRecDepth 20000 in
theorem ggX0_putNumber_X0_put : GoodIn wsX0_putNumber wsX0_put := goodIn_r _ [5, 6, 7, 8, 9, 10, 11, 12] (by decide +kernel) (by decide +kernel)
set_option maxRecDepth 20000 in
theorem gX0_putNumber_X0_put : GoodIn wsX0_putNumber (wsV RX0 29 RX0 yX0_put wsX0_put) := goodIn_app (goodIn_of _ (by decide +kernel)) ggX0_putNumber_X0_put
theorem dX0_putNumber_0 : decode cX0_putNumber 0 = .ok (.iload_n 1, 1) := by decide +kernel
theorem dX0_putNumber_1 : decode cX0_putNumber 1 = .ok (.bipush 10, 2) := by decide +kernel
theorem dX0_putNumber_3 : decode cX0_putNumber 3 = .ok (.if_icmp .lt 14, 3) := by decide +kernel
theorem dX0_putNumber_6 : decode cX0_putNumber 6 = .ok (.aload_n 0, 1) := by decide +kernel
theorem dX0_putNumber_7 : decode cX0_putNumber 7 = .ok (.bipush 48, 2) := by decide +kernel
theorem dX0_putNumber_9 : decode cX0_putNumber 9 = .ok (.iload_n 1, 1) := by decide +kernel
theorem dX0_putNumber_10 : decode cX0_putNumber 10 = .ok (.bipush 10, 2) := by decide +kernel
theorem dX0_putNumber_12 : decode cX0_putNumber 12 = .ok (.idiv, 1) := by decide +kernel
theorem dX0_putNumber_13 : decode cX0_putNumber 13 = .ok (.iadd, 1) := by decide +kernel
theorem dX0_putNumber_14 : decode cX0_putNumber 14 = .ok (.invokevirtual 29, 3) := by decide +kernel
theorem dX0_putNumber_17 : decode cX0_putNumber 17 = .ok (.aload_n 0, 1) := by decide +kernel
theorem dX0_putNumber_18 : decode cX0_putNumber 18 = .ok (.bipush 48, 2) := by decide +kernel
theorem dX0_putNumber_20 : decode cX0_putNumber 20 = .ok (.iload_n 1, 1) := by decide +kernel
theorem dX0_putNumber_21 : decode cX0_putNumber 21 = .ok (.bipush 10, 2) := by decide +kernel
theorem dX0_putNumber_23 : decode cX0_putNumber 23 = .ok (.irem, 1) := by decide +kernel
theorem dX0_putNumber_24 : decode cX0_putNumber 24 = .ok (.iadd, 1) := by decide +kernel
theorem dX0_putNumber_25 : decode cX0_putNumber 25 = .ok (.invokevirtual 29, 3) := by decide +kernel
theorem dX0_putNumber_28 : decode cX0_putNumber 28 = .ok (.return_, 1) := by decide +kernel
set_option maxRecDepth 20000 in
theorem ggX1_init_X9_init : GoodIn wsX1_init wsX9_init := goodIn_r _ [12, 13, 2, 3, 14, 15, 16, 17, 18, 19, 20, 21, 39, 40, 41] (by decide +kernel) (by decide +kernel)
set_option maxRecDepth 20000 in
theorem gX1_init_X9_init : GoodIn wsX1_init (wsX9_init) := ggX1_init_X9_init
set_option maxRecDepth 20000 in
theorem ggX1_init_X9_fill : GoodIn wsX1_init wsX9_fill := goodIn_r _ [25, 21, 26, 27, 28, 29, 39, 40, 41] (by decide +kernel) (by decide +kernel)
set_option maxRecDepth 20000 in
theorem gX1_init_X9_fill : GoodIn wsX1_init (wsV RX1 26 RX9 yX9_fill wsX9_fill) := goodIn_app (goodIn_of _ (by decide +kernel)) ggX1_init_X9_fill
set_option maxRecDepth 20000 in
theorem ggX1_init_X1_clear : GoodIn wsX1_init wsX1_clear := goodIn_r _ [34, 7, 22, 23, 24, 6, 25, 21, 26, 27, 28, 29, 35, 36, 37, 38, 14, 15, 42, 43, 44, 39, 40, 41] (by decide +kernel) (by decide +kernel)
set_option maxRecDepth 20000 in
theorem gX1_init_X1_clear : GoodIn wsX1_init (wsV RX1 30 RX1 yX1_clear wsX1_clear) := goodIn_app (goodIn_of _ (by decide +kernel)) ggX1_init_X1_clear
theorem dX1_init_0 : decode cX1_init 0 = .ok (.aload_n 0, 1) := by decide +kernel
theorem dX1_init_1 : decode cX1_init 1 = .ok (.invokespecial 3, 3) := by decide +kernel
theorem dX1_init_4 : decode cX1_init 4 = .ok (.aload_n 0, 1) := by decide +kernel
theorem dX1_init_5 : decode cX1_init 5 = .ok (.new 9, 3) := by decide +kernel
theorem dX1_init_8 : decode cX1_init 8 = .ok (.dup, 1) := by decide +kernel
theorem dX1_init_9 : decode cX1_init 9 = .ok (.bipush 32, 2) := by decide +kernel
theorem dX1_init_11 : decode cX1_init 11 = .ok (.iconst 4, 1) := by decide +kernel
theorem dX1_init_12 : decode cX1_init 12 = .ok (.invokespecial 11, 3) := by decide +kernel
theorem dX1_init_15 : decode cX1_init 15 = .ok (.putfield 14, 3) := by decide +kernel
theorem dX1_init_18 : decode cX1_init 18 = .ok (.aload_n 0, 1) := by decide +kernel
theorem dX1_init_19 : decode cX1_init 19 = .ok (.new 9, 3) := by decide +kernel
theorem dX1_init_22 : decode cX1_init 22 = .ok (.dup, 1) := by decide +kernel
theorem dX1_init_23 : decode cX1_init 23 = .ok (.bipush 32, 2) := by decide +kernel
theorem dX1_init_25 : decode cX1_init 25 = .ok (.bipush 8, 2) := by decide +kernel
theorem dX1_init_27 : decode cX1_init 27 = .ok (.invokespecial 11, 3) := by decide +kernel
theorem dX1_init_30 : decode cX1_init 30 = .ok (.putfield 20, 3) := by decide +kernel
theorem dX1_init_33 : decode cX1_init 33 = .ok (.aload_n 0, 1) := by decide +kernel
theorem dX1_init_34 : decode cX1_init 34 = .ok (.new 9, 3) := by decide +kernel
theorem dX1_init_37 : decode cX1_init 37 = .ok (.dup, 1) := by decide +kernel
theorem dX1_init_38 : decode cX1_init 38 = .ok (.bipush 32, 2) := by decide +kernel
theorem dX1_init_40 : decode cX1_init 40 = .ok (.iconst 1, 1) := by decide +kernel
theorem dX1_init_41 : decode cX1_init 41 = .ok (.invokespecial 11, 3) := by decide +kernel
theorem dX1_init_44 : decode cX1_init 44 = .ok (.putfield 23, 3) := by decide +kernel
theorem dX1_init_47 : decode cX1_init 47 = .ok (.aload_n 0, 1) := by decide +kernel
theorem dX1_init_48 : decode cX1_init 48 = .ok (.getfield 23, 3) := by decide +kernel
theorem dX1_init_51 : decode cX1_init 51 = .ok (.bipush 100, 2) := by decide +kernel
theorem dX1_init_53 : decode cX1_init 53 = .ok (.invokevirtual 26, 3) := by decide +kernel
theorem dX1_init_56 : decode cX1_init 56 = .ok (.aload_n 0, 1) := by decide +kernel
theorem dX1_init_57 : decode cX1_init 57 = .ok (.invokevirtual 30, 3) := by decide +kernel
theorem dX1_init_60 : decode cX1_init 60 = .ok (.return_, 1) := by decide +kernel
set_option maxRecDepth 20000 in
theorem ggX1_clear_X9_fill : GoodIn wsX1_clear wsX9_fill := goodIn_r _ [6, 7, 8, 9, 10, 11, 21, 22, 23] (by decide +kernel) (by decide +kernel)
set_option maxRecDepth 20000 in
theorem gX1_clear_X9_fill : GoodIn wsX1_clear (wsV RX1 26 RX9 yX9_fill wsX9_fill) := goodIn_app (goodIn_of _ (by decide +kernel)) ggX1_clear_X9_fill
set_option maxRecDepth 20000 in
theorem ggX1_clear_X9_set : GoodIn wsX1_clear wsX9_set := goodIn_r _ [15, 16, 17, 7, 21, 22, 23] (by decide +kernel) (by decide +kernel)
set_option maxRecDepth 20000 in
theorem gX1_clear_X9_set : GoodIn wsX1_clear (wsV RX1 33 RX9 yX9_set wsX9_set) := goodIn_app (goodIn_of _ (by decide +kernel)) ggX1_clear_X9_set
theorem dX1_clear_0 : decode cX1_clear 0 = .ok (.aload_n 0, 1) := by decide +kernel
theorem dX1_clear_1 : decode cX1_clear 1 = .ok (.getfield 14, 3) := by decide +kernel
theorem dX1_clear_4 : decode cX1_clear 4 = .ok (.iconst 0, 1) := by decide +kernel
theorem dX1_clear_5 : decode cX1_clear 5 = .ok (.invokevirtual 26, 3) := by decide +kernel
theorem dX1_clear_8 : decode cX1_clear 8 = .ok (.iconst 0, 1) := by decide +kernel
theorem dX1_clear_9 : decode cX1_clear 9 = .ok (.istore_n 1, 1) := by decide +kernel
theorem dX1_clear_10 : decode cX1_clear 10 = .ok (.iload_n 1, 1) := by decide +kernel
theorem dX1_clear_11 : decode cX1_clear 11 = .ok (.bipush 32, 2) := by decide +kernel
theorem dX1_clear_13 : decode cX1_clear 13 = .ok (.if_icmp .ge 19, 3) := by decide +kernel
theorem dX1_clear_16 : decode cX1_clear 16 = .ok (.aload_n 0, 1) := by decide +kernel
theorem dX1_clear_17 : decode cX1_clear 17 = .ok (.getfield 14, 3) := by decide +kernel
theorem dX1_clear_20 : decode cX1_clear 20 = .ok (.iload_n 1, 1) := by decide +kernel
theorem dX1_clear_21 : decode cX1_clear 21 = .ok (.iconst 2, 1) := by decide +kernel
theorem dX1_clear_22 : decode cX1_clear 22 = .ok (.iconst (-1), 1) := by decide +kernel
theorem dX1_clear_23 : decode cX1_clear 23 = .ok (.invokevirtual 33, 3) := by decide +kernel
theorem dX1_clear_26 : decode cX1_clear 26 = .ok (.iinc 1 1, 3) := by decide +kernel
theorem dX1_clear_29 : decode cX1_clear 29 = .ok (.goto (-19), 3) := by decide +kernel
theorem dX1_clear_32 : decode cX1_clear 32 = .ok (.return_, 1) := by decide +kernel
set_option maxRecDepth 20000 in
theorem ggX1_maskOf_X9_get : GoodIn wsX1_maskOf wsX9_get := goodIn_r _ [6, 7, 8, 9, 13, 14, 15] (by decide +kernel) (by decide +kernel)
set_option maxRecDepth 20000 in
theorem gX1_maskOf_X9_get : GoodIn wsX1_maskOf (wsV RX1 37 RX9 yX9_get wsX9_get) := goodIn_app (goodIn_of _ (by decide +kernel)) ggX1_maskOf_X9_get
theorem dX1_maskOf_0 : decode cX1_maskOf 0 = .ok (.aload_n 0, 1) := by decide +kernel
theorem dX1_maskOf_1 : decode cX1_maskOf 1 = .ok (.getfield 23, 3) := by decide +kernel
theorem dX1_maskOf_4 : decode cX1_maskOf 4 = .ok (.iload_n 1, 1) := by decide +kernel
theorem dX1_maskOf_5 : decode cX1_maskOf 5 = .ok (.iconst 0, 1) := by decide +kernel
theorem dX1_maskOf_6 : decode cX1_maskOf 6 = .ok (.invokevirtual 37, 3) := by decide +kernel
theorem dX1_maskOf_9 : decode cX1_maskOf 9 = .ok (.ireturn, 1) := by decide +kernel
set_option maxRecDepth 20000 in
theorem ggX1_mask_X9_set : GoodIn wsX1_mask wsX9_set := goodIn_r _ [6, 7, 8, 9, 13, 14, 15] (by decide +kernel) (by decide +kernel)
set_option maxRecDepth 20000 in
theorem gX1_mask_X9_set : GoodIn wsX1_mask (wsV RX1 33 RX9 yX9_set wsX9_set) := goodIn_app (goodIn_of _ (by decide +kernel)) ggX1_mask_X9_set
theorem dX1_mask_0 : decode cX1_mask 0 = .ok (.iload_n 1, 1) := by decide +kernel
theorem dX1_mask_1 : decode cX1_mask 1 = .ok (.istore 4, 2) := by decide +kernel
theorem dX1_mask_3 : decode cX1_mask 3 = .ok (.iload 4, 2) := by decide +kernel
theorem dX1_mask_5 : decode cX1_mask 5 = .ok (.iload_n 2, 1) := by decide +kernel
theorem dX1_mask_6 : decode cX1_mask 6 = .ok (.if_icmp .gt 20, 3) := by decide +kernel
theorem dX1_mask_9 : decode cX1_mask 9 = .ok (.aload_n 0, 1) := by decide +kernel
theorem dX1_mask_10 : decode cX1_mask 10 = .ok (.getfield 23, 3) := by decide +kernel
theorem dX1_mask_13 : decode cX1_mask 13 = .ok (.iload 4, 2) := by decide +kernel
theorem dX1_mask_15 : decode cX1_mask 15 = .ok (.iconst 0, 1) := by decide +kernel
theorem dX1_mask_16 : decode cX1_mask 16 = .ok (.iload_n 3, 1) := by decide +kernel
theorem dX1_mask_17 : decode cX1_mask 17 = .ok (.invokevirtual 33, 3) := by decide +kernel
theorem dX1_mask_20 : decode cX1_mask 20 = .ok (.iinc 4 1, 3) := by decide +kernel
theorem dX1_mask_23 : decode cX1_mask 23 = .ok (.goto (-20), 3) := by decide +kernel
theorem dX1_mask_26 : decode cX1_mask 26 = .ok (.return_, 1) := by decide +kernel
set_option maxRecDepth 20000 in
theorem ggX1_observe_X9_get : GoodIn wsX1_observe wsX9_get := goodIn_r _ [7, 8, 9, 10, 30, 31, 32] (by decide +kernel) (by decide +kernel)
set_option maxRecDepth 20000 in
theorem gX1_observe_X9_get : GoodIn wsX1_observe (wsV RX1 37 RX9 yX9_get wsX9_get) := goodIn_app (goodIn_of _ (by decide +kernel)) ggX1_observe_X9_get
set_option maxRecDepth 20000 in
theorem ggX1_observe_X9_set : GoodIn wsX1_observe wsX9_set := goodIn_r _ [14, 8, 9, 10, 30, 31, 32] (by decide +kernel) (by decide +kernel)
set_option maxRecDepth 20000 in
theorem gX1_observe_X9_set : GoodIn wsX1_observe (wsV RX1 33 RX9 yX9_set wsX9_set) := goodIn_app (goodIn_of _ (by decide +kernel)) ggX1_observe_X9_set
set_option maxRecDepth 20000 in
theorem ggX1_observe_X9_increase : GoodIn wsX1_observe wsX9_increase := goodIn_r _ [18, 19, 4, 5, 6, 7, 8, 9, 10, 20, 12, 13, 14, 30, 31, 32] (by decide +kernel) (by decide +kernel)
set_option maxRecDepth 20000 in
theorem gX1_observe_X9_increase : GoodIn wsX1_observe (wsV RX1 41 RX9 yX9_increase wsX9_increase) := goodIn_app (goodIn_of _ (by decide +kernel)) ggX1_observe_X9_increase
set_option maxRecDepth 20000 in
theorem ggX1_observe_X1_maskOf : GoodIn wsX1_observe wsX1_maskOf := goodIn_r _ [25, 26, 3, 4, 5, 6, 7, 8, 9, 10, 27, 28, 29, 30, 31, 32] (by decide +kernel) (by decide +kernel)
set_option maxRecDepth 20000 in
theorem gX1_observe_X1_maskOf : GoodIn wsX1_observe (wsV RX1 44 RX1 yX1_maskOf wsX1_maskOf) := goodIn_app (goodIn_of _ (by decide +kernel)) ggX1_observe_X1_maskOf
theorem dX1_observe_0 : decode cX1_observe 0 = .ok (.aload_n 0, 1) := by decide +kernel
theorem dX1_observe_1 : decode cX1_observe 1 = .ok (.getfield 14, 3) := by decide +kernel
theorem dX1_observe_4 : decode cX1_observe 4 = .ok (.iload_n 1, 1) := by decide +kernel
theorem dX1_observe_5 : decode cX1_observe 5 = .ok (.iconst 0, 1) := by decide +kernel
theorem dX1_observe_6 : decode cX1_observe 6 = .ok (.invokevirtual 37, 3) := by decide +kernel
theorem dX1_observe_9 : decode cX1_observe 9 = .ok (.istore 4, 2) := by decide +kernel
theorem dX1_observe_11 : decode cX1_observe 11 = .ok (.aload_n 0, 1) := by decide +kernel
theorem dX1_observe_12 : decode cX1_observe 12 = .ok (.getfield 20, 3) := by decide +kernel
theorem dX1_observe_15 : decode cX1_observe 15 = .ok (.iload_n 1, 1) := by decide +kernel
theorem dX1_observe_16 : decode cX1_observe 16 = .ok (.iload 4, 2) := by decide +kernel
theorem dX1_observe_18 : decode cX1_observe 18 = .ok (.bipush 8, 2) := by decide +kernel
theorem dX1_observe_20 : decode cX1_observe 20 = .ok (.irem, 1) := by decide +kernel
theorem dX1_observe_21 : decode cX1_observe 21 = .ok (.iload_n 2, 1) := by decide +kernel
theorem dX1_observe_22 : decode cX1_observe 22 = .ok (.invokevirtual 33, 3) := by decide +kernel
theorem dX1_observe_25 : decode cX1_observe 25 = .ok (.aload_n 0, 1) := by decide +kernel
theorem dX1_observe_26 : decode cX1_observe 26 = .ok (.getfield 14, 3) := by decide +kernel
theorem dX1_observe_29 : decode cX1_observe 29 = .ok (.iload_n 1, 1) := by decide +kernel
theorem dX1_observe_30 : decode cX1_observe 30 = .ok (.iconst 0, 1) := by decide +kernel
theorem dX1_observe_31 : decode cX1_observe 31 = .ok (.invokevirtual 41, 3) := by decide +kernel
theorem dX1_observe_34 : decode cX1_observe 34 = .ok (.iload_n 3, 1) := by decide +kernel
theorem dX1_observe_35 : decode cX1_observe 35 = .ok (.ifCond .eq 12, 3) := by decide +kernel
theorem dX1_observe_38 : decode cX1_observe 38 = .ok (.aload_n 0, 1) := by decide +kernel
theorem dX1_observe_39 : decode cX1_observe 39 = .ok (.getfield 14, 3) := by decide +kernel
theorem dX1_observe_42 : decode cX1_observe 42 = .ok (.iload_n 1, 1) := by decide +kernel
theorem dX1_observe_43 : decode cX1_observe 43 = .ok (.iconst 1, 1) := by decide +kernel
theorem dX1_observe_44 : decode cX1_observe 44 = .ok (.invokevirtual 41, 3) := by decide +kernel
theorem dX1_observe_47 : decode cX1_observe 47 = .ok (.iload_n 2, 1) := by decide +kernel
theorem dX1_observe_48 : decode cX1_observe 48 = .ok (.aload_n 0, 1) := by decide +kernel
theorem dX1_observe_49 : decode cX1_observe 49 = .ok (.iload_n 1, 1) := by decide +kernel
theorem dX1_observe_50 : decode cX1_observe 50 = .ok (.invokevirtual 44, 3) := by decide +kernel
theorem dX1_observe_53 : decode cX1_observe 53 = .ok (.if_icmp .le 12, 3) := by decide +kernel
theorem dX1_observe_56 : decode cX1_observe 56 = .ok (.aload_n 0, 1) := by decide +kernel
theorem dX1_observe_57 : decode cX1_observe 57 = .ok (.getfield 14, 3) := by decide +kernel
theorem dX1_observe_60 : decode cX1_observe 60 = .ok (.iload_n 1, 1) := by decide +kernel
theorem dX1_observe_61 : decode cX1_observe 61 = .ok (.iconst 3, 1) := by decide +kernel
theorem dX1_observe_62 : decode cX1_observe 62 = .ok (.invokevirtual 41, 3) := by decide +kernel
theorem dX1_observe_65 : decode cX1_observe 65 = .ok (.iload_n 2, 1) := by decide +kernel
theorem dX1_observe_66 : decode cX1_observe 66 = .ok (.aload_n 0, 1) := by decide +kernel
theorem dX1_observe_67 : decode cX1_observe 67 = .ok (.getfield 14, 3) := by decide +kernel
theorem dX1_observe_70 : decode cX1_observe 70 = .ok (.iload_n 1, 1) := by decide +kernel
theorem dX1_observe_71 : decode cX1_observe 71 = .ok (.iconst 2, 1) := by decide +kernel
theorem dX1_observe_72 : decode cX1_observe 72 = .ok (.invokevirtual 37, 3) := by decide +kernel
theorem dX1_observe_75 : decode cX1_observe 75 = .ok (.if_icmp .le 13, 3) := by decide +kernel
theorem dX1_observe_78 : decode cX1_observe 78 = .ok (.aload_n 0, 1) := by decide +kernel
theorem dX1_observe_79 : decode cX1_observe 79 = .ok (.getfield 14, 3) := by decide +kernel
theorem dX1_observe_82 : decode cX1_observe 82 = .ok (.iload_n 1, 1) := by decide +kernel
theorem dX1_observe_83 : decode cX1_observe 83 = .ok (.iconst 2, 1) := by decide +kernel
theorem dX1_observe_84 : decode cX1_observe 84 = .ok (.iload_n 2, 1) := by decide +kernel
theorem dX1_observe_85 : decode cX1_observe 85 = .ok (.invokevirtual 33, 3) := by decide +kernel
theorem dX1_observe_88 : decode cX1_observe 88 = .ok (.return_, 1) := by decide +kernel
set_option maxRecDepth 20000 in
theorem ggX1_mean_X9_get : GoodIn wsX1_mean wsX9_get := goodIn_r _ [11, 12, 13, 14, 18, 19, 20] (by decide +kernel) (by decide +kernel)
set_option maxRecDepth 20000 in
theorem gX1_mean_X9_get : GoodIn wsX1_mean (wsV RX1 37 RX9 yX9_get wsX9_get) := goodIn_app (goodIn_of _ (by decide +kernel)) ggX1_mean_X9_get
theorem dX1_mean_0 : decode cX1_mean 0 = .ok (.aload_n 0, 1) := by decide +kernel
theorem dX1_mean_1 : decode cX1_mean 1 = .ok (.getfield 14, 3) := by decide +kernel
theorem dX1_mean_4 : decode cX1_mean 4 = .ok (.iload_n 1, 1) := by decide +kernel
theorem dX1_mean_5 : decode cX1_mean 5 = .ok (.iconst 0, 1) := by decide +kernel
theorem dX1_mean_6 : decode cX1_mean 6 = .ok (.invokevirtual 37, 3) := by decide +kernel
theorem dX1_mean_9 : decode cX1_mean 9 = .ok (.bipush 8, 2) := by decide +kernel
theorem dX1_mean_11 : decode cX1_mean 11 = .ok (.invokestatic 48, 3) := by decide +kernel
theorem dX1_mean_14 : decode cX1_mean 14 = .ok (.istore_n 2, 1) := by decide +kernel
theorem dX1_mean_15 : decode cX1_mean 15 = .ok (.iload_n 2, 1) := by decide +kernel
theorem dX1_mean_16 : decode cX1_mean 16 = .ok (.iconst 1, 1) := by decide +kernel
theorem dX1_mean_17 : decode cX1_mean 17 = .ok (.if_icmp .ge 5, 3) := by decide +kernel
theorem dX1_mean_20 : decode cX1_mean 20 = .ok (.iconst (-1), 1) := by decide +kernel
theorem dX1_mean_21 : decode cX1_mean 21 = .ok (.ireturn, 1) := by decide +kernel
theorem dX1_mean_22 : decode cX1_mean 22 = .ok (.iconst 0, 1) := by decide +kernel
theorem dX1_mean_23 : decode cX1_mean 23 = .ok (.istore_n 3, 1) := by decide +kernel
theorem dX1_mean_24 : decode cX1_mean 24 = .ok (.iconst 0, 1) := by decide +kernel
theorem dX1_mean_25 : decode cX1_mean 25 = .ok (.istore 4, 2) := by decide +kernel
theorem dX1_mean_27 : decode cX1_mean 27 = .ok (.iload 4, 2) := by decide +kernel
theorem dX1_mean_29 : decode cX1_mean 29 = .ok (.iload_n 2, 1) := by decide +kernel
theorem dX1_mean_30 : decode cX1_mean 30 = .ok (.if_icmp .ge 22, 3) := by decide +kernel
theorem dX1_mean_33 : decode cX1_mean 33 = .ok (.iload_n 3, 1) := by decide +kernel
theorem dX1_mean_34 : decode cX1_mean 34 = .ok (.aload_n 0, 1) := by decide +kernel
theorem dX1_mean_35 : decode cX1_mean 35 = .ok (.getfield 20, 3) := by decide +kernel
theorem dX1_mean_38 : decode cX1_mean 38 = .ok (.iload_n 1, 1) := by decide +kernel
theorem dX1_mean_39 : decode cX1_mean 39 = .ok (.iload 4, 2) := by decide +kernel
theorem dX1_mean_41 : decode cX1_mean 41 = .ok (.invokevirtual 37, 3) := by decide +kernel
theorem dX1_mean_44 : decode cX1_mean 44 = .ok (.iadd, 1) := by decide +kernel
theorem dX1_mean_45 : decode cX1_mean 45 = .ok (.istore_n 3, 1) := by decide +kernel
theorem dX1_mean_46 : decode cX1_mean 46 = .ok (.iinc 4 1, 3) := by decide +kernel
theorem dX1_mean_49 : decode cX1_mean 49 = .ok (.goto (-22), 3) := by decide +kernel
theorem dX1_mean_52 : decode cX1_mean 52 = .ok (.iload_n 3, 1) := by decide +kernel
theorem dX1_mean_53 : decode cX1_mean 53 = .ok (.iload_n 2, 1) := by decide +kernel
theorem dX1_mean_54 : decode cX1_mean 54 = .ok (.idiv, 1) := by decide +kernel
theorem dX1_mean_55 : decode cX1_mean 55 = .ok (.ireturn, 1) := by decide +kernel
set_option maxRecDepth 20000 in
theorem ggX1_mixChannels_X1_maskOf : GoodIn wsX1_mixChannels wsX1_maskOf := goodIn_r _ [6, 7, 8, 9, 10, 11, 12, 13, 14, 15, 34, 35, 36, 37, 38, 39] (by decide +kernel) (by decide +kernel)
set_option maxRecDepth 20000 in
theorem gX1_mixChannels_X1_maskOf : GoodIn wsX1_mixChannels (wsV RX1 44 RX1 yX1_maskOf wsX1_maskOf) := goodIn_app (goodIn_of _ (by decide +kernel)) ggX1_mixChannels_X1_maskOf
set_option maxRecDepth 20000 in
theorem ggX1_mixChannels_X10_mix : GoodIn wsX1_mixChannels wsX10_mix := goodIn_r _ [18, 19] (by decide +kernel) (by decide +kernel)
set_option maxRecDepth 20000 in
theorem gX1_mixChannels_X10_mix_n53 : GoodIn wsX1_mixChannels (wsX10_mix) := ggX1_mixChannels_X10_mix
set_option maxRecDepth 20000 in
theorem ggX1_mixChannels_X9_mixRow : GoodIn wsX1_mixChannels wsX9_mixRow := goodIn_r _ [23, 14, 24, 9, 10, 11, 12, 13, 15, 16, 17, 18, 19, 37, 38, 39] (by decide +kernel) (by decide +kernel)
set_option maxRecDepth 20000 in
theorem gX1_mixChannels_X9_mixRow : GoodIn wsX1_mixChannels (wsV RX1 57 RX9 yX9_mixRow wsX9_mixRow) := goodIn_app (goodIn_of _ (by decide +kernel)) ggX1_mixChannels_X9_mixRow
set_option maxRecDepth 20000 in
theorem ggX1_mixChannels_X1_mean : GoodIn wsX1_mixChannels wsX1_mean := goodIn_r _ [28, 1, 29, 30, 31, 32, 33, 8, 9, 10, 11, 12, 13, 14, 15, 34, 35, 36, 37, 38, 39] (by decide +kernel) (by decide +kernel)
set_option maxRecDepth 20000 in
theorem gX1_mixChannels_X1_mean : GoodIn wsX1_mixChannels (wsV RX1 60 RX1 yX1_mean wsX1_mean) := goodIn_app (goodIn_of _ (by decide +kernel)) ggX1_mixChannels_X1_mean
theorem dX1_mixChannels_0 : decode cX1_mixChannels 0 = .ok (.lload_n 1, 1) := by decide +kernel
theorem dX1_mixChannels_1 : decode cX1_mixChannels 1 = .ok (.lstore_n 3, 1) := by decide +kernel
theorem dX1_mixChannels_2 : decode cX1_mixChannels 2 = .ok (.iconst 0, 1) := by decide +kernel
theorem dX1_mixChannels_3 : decode cX1_mixChannels 3 = .ok (.istore 5, 2) := by decide +kernel
theorem dX1_mixChannels_5 : decode cX1_mixChannels 5 = .ok (.iload 5, 2) := by decide +kernel
theorem dX1_mixChannels_7 : decode cX1_mixChannels 7 = .ok (.bipush 32, 2) := by decide +kernel
theorem dX1_mixChannels_9 : decode cX1_mixChannels 9 = .ok (.if_icmp .ge 42, 3) := by decide +kernel
theorem dX1_mixChannels_12 : decode cX1_mixChannels 12 = .ok (.lload_n 3, 1) := by decide +kernel
theorem dX1_mixChannels_13 : decode cX1_mixChannels 13 = .ok (.aload_n 0, 1) := by decide +kernel
theorem dX1_mixChannels_14 : decode cX1_mixChannels 14 = .ok (.iload 5, 2) := by decide +kernel
theorem dX1_mixChannels_16 : decode cX1_mixChannels 16 = .ok (.invokevirtual 44, 3) := by decide +kernel
theorem dX1_mixChannels_19 : decode cX1_mixChannels 19 = .ok (.invokestatic 53, 3) := by decide +kernel
theorem dX1_mixChannels_22 : decode cX1_mixChannels 22 = .ok (.lstore_n 3, 1) := by decide +kernel
theorem dX1_mixChannels_23 : decode cX1_mixChannels 23 = .ok (.aload_n 0, 1) := by decide +kernel
theorem dX1_mixChannels_24 : decode cX1_mixChannels 24 = .ok (.getfield 14, 3) := by decide +kernel
theorem dX1_mixChannels_27 : decode cX1_mixChannels 27 = .ok (.lload_n 3, 1) := by decide +kernel
theorem dX1_mixChannels_28 : decode cX1_mixChannels 28 = .ok (.iload 5, 2) := by decide +kernel
theorem dX1_mixChannels_30 : decode cX1_mixChannels 30 = .ok (.invokevirtual 57, 3) := by decide +kernel
theorem dX1_mixChannels_33 : decode cX1_mixChannels 33 = .ok (.lstore_n 3, 1) := by decide +kernel
theorem dX1_mixChannels_34 : decode cX1_mixChannels 34 = .ok (.lload_n 3, 1) := by decide +kernel
theorem dX1_mixChannels_35 : decode cX1_mixChannels 35 = .ok (.aload_n 0, 1) := by decide +kernel
theorem dX1_mixChannels_36 : decode cX1_mixChannels 36 = .ok (.iload 5, 2) := by decide +kernel
theorem dX1_mixChannels_38 : decode cX1_mixChannels 38 = .ok (.invokevirtual 60, 3) := by decide +kernel
theorem dX1_mixChannels_41 : decode cX1_mixChannels 41 = .ok (.invokestatic 53, 3) := by decide +kernel
theorem dX1_mixChannels_44 : decode cX1_mixChannels 44 = .ok (.lstore_n 3, 1) := by decide +kernel
theorem dX1_mixChannels_45 : decode cX1_mixChannels 45 = .ok (.iinc 5 1, 3) := by decide +kernel
theorem dX1_mixChannels_48 : decode cX1_mixChannels 48 = .ok (.goto (-43), 3) := by decide +kernel
theorem dX1_mixChannels_51 : decode cX1_mixChannels 51 = .ok (.lload_n 3, 1) := by decide +kernel
theorem dX1_mixChannels_52 : decode cX1_mixChannels 52 = .ok (.lreturn, 1) := by decide +kernel
set_option maxRecDepth 20000 in
theorem ggX1_copyFrom_X9_copyFrom : GoodIn wsX1_copyFrom wsX9_copyFrom := goodIn_r _ [8, 9, 10, 11, 12, 13, 14, 15, 16, 17, 21, 22, 23] (by decide +kernel) (by decide +kernel)
set_option maxRecDepth 20000 in
theorem gX1_copyFrom_X9_copyFrom : GoodIn wsX1_copyFrom (wsV RX1 63 RX9 yX9_copyFrom wsX9_copyFrom) := goodIn_app (goodIn_of _ (by decide +kernel)) ggX1_copyFrom_X9_copyFrom
theorem dX1_copyFrom_0 : decode cX1_copyFrom 0 = .ok (.aload_n 0, 1) := by decide +kernel
theorem dX1_copyFrom_1 : decode cX1_copyFrom 1 = .ok (.getfield 14, 3) := by decide +kernel
theorem dX1_copyFrom_4 : decode cX1_copyFrom 4 = .ok (.aload_n 1, 1) := by decide +kernel
theorem dX1_copyFrom_5 : decode cX1_copyFrom 5 = .ok (.getfield 14, 3) := by decide +kernel
theorem dX1_copyFrom_8 : decode cX1_copyFrom 8 = .ok (.invokevirtual 63, 3) := by decide +kernel
theorem dX1_copyFrom_11 : decode cX1_copyFrom 11 = .ok (.aload_n 0, 1) := by decide +kernel
theorem dX1_copyFrom_12 : decode cX1_copyFrom 12 = .ok (.getfield 20, 3) := by decide +kernel
theorem dX1_copyFrom_15 : decode cX1_copyFrom 15 = .ok (.aload_n 1, 1) := by decide +kernel
theorem dX1_copyFrom_16 : decode cX1_copyFrom 16 = .ok (.getfield 20, 3) := by decide +kernel
theorem dX1_copyFrom_19 : decode cX1_copyFrom 19 = .ok (.invokevirtual 63, 3) := by decide +kernel
theorem dX1_copyFrom_22 : decode cX1_copyFrom 22 = .ok (.aload_n 0, 1) := by decide +kernel
theorem dX1_copyFrom_23 : decode cX1_copyFrom 23 = .ok (.getfield 23, 3) := by decide +kernel
theorem dX1_copyFrom_26 : decode cX1_copyFrom 26 = .ok (.aload_n 1, 1) := by decide +kernel
theorem dX1_copyFrom_27 : decode cX1_copyFrom 27 = .ok (.getfield 23, 3) := by decide +kernel
theorem dX1_copyFrom_30 : decode cX1_copyFrom 30 = .ok (.invokevirtual 63, 3) := by decide +kernel
theorem dX1_copyFrom_33 : decode cX1_copyFrom 33 = .ok (.return_, 1) := by decide +kernel
set_option maxRecDepth 20000 in
theorem ggX2_init_X9_init : GoodIn wsX2_init wsX9_init := goodIn_r _ [13, 14, 2, 3, 15, 16, 17, 18, 19, 20, 8, 21, 30, 31, 32] (by decide +kernel) (by decide +kernel)
set_option maxRecDepth 20000 in
theorem gX2_init_X9_init : GoodIn wsX2_init (wsX9_init) := ggX2_init_X9_init
set_option maxRecDepth 20000 in
theorem ggX2_init_X9_fill : GoodIn wsX2_init wsX9_fill := goodIn_r _ [25, 21, 26, 27, 28, 29, 30, 31, 32] (by decide +kernel) (by decide +kernel)
set_option maxRecDepth 20000 in
theorem gX2_init_X9_fill : GoodIn wsX2_init (wsV RX2 27 RX9 yX9_fill wsX9_fill) := goodIn_app (goodIn_of _ (by decide +kernel)) ggX2_init_X9_fill
theorem dX2_init_0 : decode cX2_init 0 = .ok (.aload_n 0, 1) := by decide +kernel
theorem dX2_init_1 : decode cX2_init 1 = .ok (.invokespecial 3, 3) := by decide +kernel
theorem dX2_init_4 : decode cX2_init 4 = .ok (.aload_n 0, 1) := by decide +kernel
theorem dX2_init_5 : decode cX2_init 5 = .ok (.new 9, 3) := by decide +kernel
theorem dX2_init_8 : decode cX2_init 8 = .ok (.dup, 1) := by decide +kernel
theorem dX2_init_9 : decode cX2_init 9 = .ok (.bipush 50, 2) := by decide +kernel
theorem dX2_init_11 : decode cX2_init 11 = .ok (.iconst 5, 1) := by decide +kernel
theorem dX2_init_12 : decode cX2_init 12 = .ok (.invokespecial 11, 3) := by decide +kernel
theorem dX2_init_15 : decode cX2_init 15 = .ok (.putfield 14, 3) := by decide +kernel
theorem dX2_init_18 : decode cX2_init 18 = .ok (.aload_n 0, 1) := by decide +kernel
theorem dX2_init_19 : decode cX2_init 19 = .ok (.bipush 50, 2) := by decide +kernel
theorem dX2_init_21 : decode cX2_init 21 = .ok (.newarray .int, 2) := by decide +kernel
theorem dX2_init_23 : decode cX2_init 23 = .ok (.putfield 20, 3) := by decide +kernel
theorem dX2_init_26 : decode cX2_init 26 = .ok (.aload_n 0, 1) := by decide +kernel
theorem dX2_init_27 : decode cX2_init 27 = .ok (.new 9, 3) := by decide +kernel
theorem dX2_init_30 : decode cX2_init 30 = .ok (.dup, 1) := by decide +kernel
theorem dX2_init_31 : decode cX2_init 31 = .ok (.bipush 32, 2) := by decide +kernel
theorem dX2_init_33 : decode cX2_init 33 = .ok (.iconst 1, 1) := by decide +kernel
theorem dX2_init_34 : decode cX2_init 34 = .ok (.invokespecial 11, 3) := by decide +kernel
theorem dX2_init_37 : decode cX2_init 37 = .ok (.putfield 24, 3) := by decide +kernel
theorem dX2_init_40 : decode cX2_init 40 = .ok (.iconst 0, 1) := by decide +kernel
theorem dX2_init_41 : decode cX2_init 41 = .ok (.istore_n 1, 1) := by decide +kernel
theorem dX2_init_42 : decode cX2_init 42 = .ok (.iload_n 1, 1) := by decide +kernel
theorem dX2_init_43 : decode cX2_init 43 = .ok (.aload_n 0, 1) := by decide +kernel
theorem dX2_init_44 : decode cX2_init 44 = .ok (.getfield 20, 3) := by decide +kernel
theorem dX2_init_47 : decode cX2_init 47 = .ok (.arraylength, 1) := by decide +kernel
theorem dX2_init_48 : decode cX2_init 48 = .ok (.if_icmp .ge 16, 3) := by decide +kernel
theorem dX2_init_51 : decode cX2_init 51 = .ok (.aload_n 0, 1) := by decide +kernel
theorem dX2_init_52 : decode cX2_init 52 = .ok (.getfield 20, 3) := by decide +kernel
theorem dX2_init_55 : decode cX2_init 55 = .ok (.iload_n 1, 1) := by decide +kernel
theorem dX2_init_56 : decode cX2_init 56 = .ok (.iload_n 1, 1) := by decide +kernel
theorem dX2_init_57 : decode cX2_init 57 = .ok (.iastore, 1) := by decide +kernel
theorem dX2_init_58 : decode cX2_init 58 = .ok (.iinc 1 1, 3) := by decide +kernel
theorem dX2_init_61 : decode cX2_init 61 = .ok (.goto (-19), 3) := by decide +kernel
theorem dX2_init_64 : decode cX2_init 64 = .ok (.aload_n 0, 1) := by decide +kernel
theorem dX2_init_65 : decode cX2_init 65 = .ok (.getfield 24, 3) := by decide +kernel
theorem dX2_init_68 : decode cX2_init 68 = .ok (.iconst (-1), 1) := by decide +kernel
theorem dX2_init_69 : decode cX2_init 69 = .ok (.invokevirtual 27, 3) := by decide +kernel
theorem dX2_init_72 : decode cX2_init 72 = .ok (.return_, 1) := by decide +kernel
set_option maxRecDepth 20000 in
theorem ggX2_clear_X9_fill : GoodIn wsX2_clear wsX9_fill := goodIn_r _ [7, 8, 9, 10, 11, 12, 17, 18, 19] (by decide +kernel) (by decide +kernel)
set_option maxRecDepth 20000 in
theorem gX2_clear_X9_fill : GoodIn wsX2_clear (wsV RX2 27 RX9 yX9_fill wsX9_fill) := goodIn_app (goodIn_of _ (by decide +kernel)) ggX2_clear_X9_fill
theorem dX2_clear_0 : decode cX2_clear 0 = .ok (.aload_n 0, 1) := by decide +kernel
theorem dX2_clear_1 : decode cX2_clear 1 = .ok (.iconst 0, 1) := by decide +kernel
theorem dX2_clear_2 : decode cX2_clear 2 = .ok (.putfield 31, 3) := by decide +kernel
theorem dX2_clear_5 : decode cX2_clear 5 = .ok (.aload_n 0, 1) := by decide +kernel
theorem dX2_clear_6 : decode cX2_clear 6 = .ok (.getfield 24, 3) := by decide +kernel
theorem dX2_clear_9 : decode cX2_clear 9 = .ok (.iconst (-1), 1) := by decide +kernel
theorem dX2_clear_10 : decode cX2_clear 10 = .ok (.invokevirtual 27, 3) := by decide +kernel
theorem dX2_clear_13 : decode cX2_clear 13 = .ok (.return_, 1) := by decide +kernel
set_option maxRecDepth 20000 in
theorem ggX2_read_X10_within : GoodIn wsX2_read wsX10_within := goodIn_r _ [5] (by decide +kernel) (by decide +kernel)
set_option maxRecDepth 20000 in
theorem gX2_read_X10_within_n35 : GoodIn wsX2_read (wsX10_within) := ggX2_read_X10_within
set_option maxRecDepth 20000 in
theorem ggX2_read_X9_get : GoodIn wsX2_read wsX9_get := goodIn_r _ [10, 11, 12, 13, 18, 19, 20] (by decide +kernel) (by decide +kernel)
set_option maxRecDepth 20000 in
theorem gX2_read_X9_get : GoodIn wsX2_read (wsV RX2 39 RX9 yX9_get wsX9_get) := goodIn_app (goodIn_of _ (by decide +kernel)) ggX2_read_X9_get
theorem dX2_read_0 : decode cX2_read 0 = .ok (.iload_n 1, 1) := by decide +kernel
theorem dX2_read_1 : decode cX2_read 1 = .ok (.aload_n 0, 1) := by decide +kernel
theorem dX2_read_2 : decode cX2_read 2 = .ok (.getfield 20, 3) := by decide +kernel
theorem dX2_read_5 : decode cX2_read 5 = .ok (.arraylength, 1) := by decide +kernel
theorem dX2_read_6 : decode cX2_read 6 = .ok (.invokestatic 35, 3) := by decide +kernel
theorem dX2_read_9 : decode cX2_read 9 = .ok (.ifCond .eq 20, 3) := by decide +kernel
theorem dX2_read_12 : decode cX2_read 12 = .ok (.aload_n 0, 1) := by decide +kernel
theorem dX2_read_13 : decode cX2_read 13 = .ok (.getfield 14, 3) := by decide +kernel
theorem dX2_read_16 : decode cX2_read 16 = .ok (.aload_n 0, 1) := by decide +kernel
theorem dX2_read_17 : decode cX2_read 17 = .ok (.getfield 20, 3) := by decide +kernel
theorem dX2_read_20 : decode cX2_read 20 = .ok (.iload_n 1, 1) := by decide +kernel
theorem dX2_read_21 : decode cX2_read 21 = .ok (.iaload, 1) := by decide +kernel
theorem dX2_read_22 : decode cX2_read 22 = .ok (.iload_n 2, 1) := by decide +kernel
theorem dX2_read_23 : decode cX2_read 23 = .ok (.invokevirtual 39, 3) := by decide +kernel
theorem dX2_read_26 : decode cX2_read 26 = .ok (.goto 4, 3) := by decide +kernel
theorem dX2_read_29 : decode cX2_read 29 = .ok (.iconst (-1), 1) := by decide +kernel
theorem dX2_read_30 : decode cX2_read 30 = .ok (.ireturn, 1) := by decide +kernel
set_option maxRecDepth 20000 in
theorem ggX2_noteHit_X9_get : GoodIn wsX2_noteHit wsX9_get := goodIn_r _ [7, 8, 9, 10, 37, 38, 39] (by decide +kernel) (by decide +kernel)
set_option maxRecDepth 20000 in
theorem gX2_noteHit_X9_get : GoodIn wsX2_noteHit (wsV RX2 39 RX9 yX9_get wsX9_get) := goodIn_app (goodIn_of _ (by decide +kernel)) ggX2_noteHit_X9_get
set_option maxRecDepth 20000 in
theorem ggX2_noteHit_X2_dropIfFull : GoodIn wsX2_noteHit wsX2_dropIfFull := goodIn_r _ [15, 16, 17, 2, 18, 19, 20, 21, 3, 4, 5, 6, 7, 8, 9, 10, 33, 34, 35, 36, 37, 38, 39] (by decide +kernel) (by decide +kernel)
set_option maxRecDepth 20000 in
theorem gX2_noteHit_X2_dropIfFull : GoodIn wsX2_noteHit (wsV RX2 43 RX2 yX2_dropIfFull wsX2_dropIfFull) := goodIn_app (goodIn_of _ (by decide +kernel)) ggX2_noteHit_X2_dropIfFull
set_option maxRecDepth 20000 in
theorem ggX2_noteHit_X2_open : GoodIn wsX2_noteHit wsX2_open := goodIn_r _ [25, 17, 16, 2, 1, 26, 27, 28, 29, 30, 31, 6, 32, 8, 9, 10, 33, 34, 35, 36, 37, 38, 39] (by decide +kernel) (by decide +kernel)
set_option maxRecDepth 20000 in
theorem gX2_noteHit_X2_open : GoodIn wsX2_noteHit (wsV RX2 46 RX2 yX2_open wsX2_open) := goodIn_app (goodIn_of _ (by decide +kernel)) ggX2_noteHit_X2_open
set_option maxRecDepth 20000 in
theorem ggX2_noteHit_X9_set : GoodIn wsX2_noteHit wsX9_set := goodIn_r _ [32, 8, 9, 10, 37, 38, 39] (by decide +kernel) (by decide +kernel)
set_option maxRecDepth 20000 in
theorem gX2_noteHit_X9_set : GoodIn wsX2_noteHit (wsV RX2 50 RX9 yX9_set wsX9_set) := goodIn_app (goodIn_of _ (by decide +kernel)) ggX2_noteHit_X9_set
theorem dX2_noteHit_0 : decode cX2_noteHit 0 = .ok (.aload_n 0, 1) := by decide +kernel
theorem dX2_noteHit_1 : decode cX2_noteHit 1 = .ok (.getfield 24, 3) := by decide +kernel
theorem dX2_noteHit_4 : decode cX2_noteHit 4 = .ok (.iload_n 1, 1) := by decide +kernel
theorem dX2_noteHit_5 : decode cX2_noteHit 5 = .ok (.iconst 0, 1) := by decide +kernel
theorem dX2_noteHit_6 : decode cX2_noteHit 6 = .ok (.invokevirtual 39, 3) := by decide +kernel
theorem dX2_noteHit_9 : decode cX2_noteHit 9 = .ok (.istore 4, 2) := by decide +kernel
theorem dX2_noteHit_11 : decode cX2_noteHit 11 = .ok (.iload 4, 2) := by decide +kernel
theorem dX2_noteHit_13 : decode cX2_noteHit 13 = .ok (.iconst (-1), 1) := by decide +kernel
theorem dX2_noteHit_14 : decode cX2_noteHit 14 = .ok (.if_icmp .ne 15, 3) := by decide +kernel
theorem dX2_noteHit_17 : decode cX2_noteHit 17 = .ok (.aload_n 0, 1) := by decide +kernel
theorem dX2_noteHit_18 : decode cX2_noteHit 18 = .ok (.invokevirtual 43, 3) := by decide +kernel
theorem dX2_noteHit_21 : decode cX2_noteHit 21 = .ok (.aload_n 0, 1) := by decide +kernel
theorem dX2_noteHit_22 : decode cX2_noteHit 22 = .ok (.iload_n 1, 1) := by decide +kernel
theorem dX2_noteHit_23 : decode cX2_noteHit 23 = .ok (.iload_n 2, 1) := by decide +kernel
theorem dX2_noteHit_24 : decode cX2_noteHit 24 = .ok (.iload_n 3, 1) := by decide +kernel
theorem dX2_noteHit_25 : decode cX2_noteHit 25 = .ok (.invokevirtual 46, 3) := by decide +kernel
theorem dX2_noteHit_28 : decode cX2_noteHit 28 = .ok (.return_, 1) := by decide +kernel
theorem dX2_noteHit_29 : decode cX2_noteHit 29 = .ok (.aload_n 0, 1) := by decide +kernel
theorem dX2_noteHit_30 : decode cX2_noteHit 30 = .ok (.getfield 14, 3) := by decide +kernel
theorem dX2_noteHit_33 : decode cX2_noteHit 33 = .ok (.iload 4, 2) := by decide +kernel
theorem dX2_noteHit_35 : decode cX2_noteHit 35 = .ok (.iconst 2, 1) := by decide +kernel
theorem dX2_noteHit_36 : decode cX2_noteHit 36 = .ok (.iload_n 2, 1) := by decide +kernel
theorem dX2_noteHit_37 : decode cX2_noteHit 37 = .ok (.invokevirtual 50, 3) := by decide +kernel
theorem dX2_noteHit_40 : decode cX2_noteHit 40 = .ok (.iload_n 3, 1) := by decide +kernel
theorem dX2_noteHit_41 : decode cX2_noteHit 41 = .ok (.aload_n 0, 1) := by decide +kernel
theorem dX2_noteHit_42 : decode cX2_noteHit 42 = .ok (.getfield 14, 3) := by decide +kernel
theorem dX2_noteHit_45 : decode cX2_noteHit 45 = .ok (.iload 4, 2) := by decide +kernel
theorem dX2_noteHit_47 : decode cX2_noteHit 47 = .ok (.iconst 3, 1) := by decide +kernel
theorem dX2_noteHit_48 : decode cX2_noteHit 48 = .ok (.invokevirtual 39, 3) := by decide +kernel
theorem dX2_noteHit_51 : decode cX2_noteHit 51 = .ok (.if_icmp .le 14, 3) := by decide +kernel
theorem dX2_noteHit_54 : decode cX2_noteHit 54 = .ok (.aload_n 0, 1) := by decide +kernel
theorem dX2_noteHit_55 : decode cX2_noteHit 55 = .ok (.getfield 14, 3) := by decide +kernel
theorem dX2_noteHit_58 : decode cX2_noteHit 58 = .ok (.iload 4, 2) := by decide +kernel
theorem dX2_noteHit_60 : decode cX2_noteHit 60 = .ok (.iconst 3, 1) := by decide +kernel
theorem dX2_noteHit_61 : decode cX2_noteHit 61 = .ok (.iload_n 3, 1) := by decide +kernel
theorem dX2_noteHit_62 : decode cX2_noteHit 62 = .ok (.invokevirtual 50, 3) := by decide +kernel
theorem dX2_noteHit_65 : decode cX2_noteHit 65 = .ok (.return_, 1) := by decide +kernel
set_option maxRecDepth 20000 in
theorem ggX2_noteMiss_X9_get : GoodIn wsX2_noteMiss wsX9_get := goodIn_r _ [7, 8, 9, 10, 19, 20, 21] (by decide +kernel) (by decide +kernel)
set_option maxRecDepth 20000 in
theorem gX2_noteMiss_X9_get : GoodIn wsX2_noteMiss (wsV RX2 39 RX9 yX9_get wsX9_get) := goodIn_app (goodIn_of _ (by decide +kernel)) ggX2_noteMiss_X9_get
set_option maxRecDepth 20000 in
theorem ggX2_noteMiss_X9_set : GoodIn wsX2_noteMiss wsX9_set := goodIn_r _ [14, 8, 9, 10, 19, 20, 21] (by decide +kernel) (by decide +kernel)
set_option maxRecDepth 20000 in
theorem gX2_noteMiss_X9_set : GoodIn wsX2_noteMiss (wsV RX2 50 RX9 yX9_set wsX9_set) := goodIn_app (goodIn_of _ (by decide +kernel)) ggX2_noteMiss_X9_set
theorem dX2_noteMiss_0 : decode cX2_noteMiss 0 = .ok (.aload_n 0, 1) := by decide +kernel
theorem dX2_noteMiss_1 : decode cX2_noteMiss 1 = .ok (.getfield 14, 3) := by decide +kernel
theorem dX2_noteMiss_4 : decode cX2_noteMiss 4 = .ok (.aload_n 0, 1) := by decide +kernel
theorem dX2_noteMiss_5 : decode cX2_noteMiss 5 = .ok (.getfield 24, 3) := by decide +kernel
theorem dX2_noteMiss_8 : decode cX2_noteMiss 8 = .ok (.iload_n 1, 1) := by decide +kernel
theorem dX2_noteMiss_9 : decode cX2_noteMiss 9 = .ok (.iconst 0, 1) := by decide +kernel
theorem dX2_noteMiss_10 : decode cX2_noteMiss 10 = .ok (.invokevirtual 39, 3) := by decide +kernel
theorem dX2_noteMiss_13 : decode cX2_noteMiss 13 = .ok (.iconst 4, 1) := by decide +kernel
theorem dX2_noteMiss_14 : decode cX2_noteMiss 14 = .ok (.iconst 0, 1) := by decide +kernel
theorem dX2_noteMiss_15 : decode cX2_noteMiss 15 = .ok (.invokevirtual 50, 3) := by decide +kernel
theorem dX2_noteMiss_18 : decode cX2_noteMiss 18 = .ok (.aload_n 0, 1) := by decide +kernel
theorem dX2_noteMiss_19 : decode cX2_noteMiss 19 = .ok (.getfield 24, 3) := by decide +kernel
theorem dX2_noteMiss_22 : decode cX2_noteMiss 22 = .ok (.iload_n 1, 1) := by decide +kernel
theorem dX2_noteMiss_23 : decode cX2_noteMiss 23 = .ok (.iconst 0, 1) := by decide +kernel
theorem dX2_noteMiss_24 : decode cX2_noteMiss 24 = .ok (.iconst (-1), 1) := by decide +kernel
theorem dX2_noteMiss_25 : decode cX2_noteMiss 25 = .ok (.invokevirtual 50, 3) := by decide +kernel
theorem dX2_noteMiss_28 : decode cX2_noteMiss 28 = .ok (.return_, 1) := by decide +kernel
set_option maxRecDepth 20000 in
theorem ggX2_open_X10_within : GoodIn wsX2_open wsX10_within := goodIn_r _ [7] (by decide +kernel) (by decide +kernel)
set_option maxRecDepth 20000 in
theorem gX2_open_X10_within_n35 : GoodIn wsX2_open (wsX10_within) := ggX2_open_X10_within
set_option maxRecDepth 20000 in
theorem ggX2_open_X9_set : GoodIn wsX2_open wsX9_set := goodIn_r _ [12, 13, 14, 15, 20, 21, 22] (by decide +kernel) (by decide +kernel)
set_option maxRecDepth 20000 in
theorem gX2_open_X9_set : GoodIn wsX2_open (wsV RX2 50 RX9 yX9_set wsX9_set) := goodIn_app (goodIn_of _ (by decide +kernel)) ggX2_open_X9_set
theorem dX2_open_0 : decode cX2_open 0 = .ok (.aload_n 0, 1) := by decide +kernel
theorem dX2_open_1 : decode cX2_open 1 = .ok (.getfield 31, 3) := by decide +kernel
theorem dX2_open_4 : decode cX2_open 4 = .ok (.aload_n 0, 1) := by decide +kernel
theorem dX2_open_5 : decode cX2_open 5 = .ok (.getfield 20, 3) := by decide +kernel
theorem dX2_open_8 : decode cX2_open 8 = .ok (.arraylength, 1) := by decide +kernel
theorem dX2_open_9 : decode cX2_open 9 = .ok (.invokestatic 35, 3) := by decide +kernel
theorem dX2_open_12 : decode cX2_open 12 = .ok (.ifCond .ne 4, 3) := by decide +kernel
theorem dX2_open_15 : decode cX2_open 15 = .ok (.return_, 1) := by decide +kernel
theorem dX2_open_16 : decode cX2_open 16 = .ok (.aload_n 0, 1) := by decide +kernel
theorem dX2_open_17 : decode cX2_open 17 = .ok (.getfield 20, 3) := by decide +kernel
theorem dX2_open_20 : decode cX2_open 20 = .ok (.aload_n 0, 1) := by decide +kernel
theorem dX2_open_21 : decode cX2_open 21 = .ok (.getfield 31, 3) := by decide +kernel
theorem dX2_open_24 : decode cX2_open 24 = .ok (.iaload, 1) := by decide +kernel
theorem dX2_open_25 : decode cX2_open 25 = .ok (.istore 4, 2) := by decide +kernel
theorem dX2_open_27 : decode cX2_open 27 = .ok (.aload_n 0, 1) := by decide +kernel
theorem dX2_open_28 : decode cX2_open 28 = .ok (.getfield 14, 3) := by decide +kernel
theorem dX2_open_31 : decode cX2_open 31 = .ok (.iload 4, 2) := by decide +kernel
theorem dX2_open_33 : decode cX2_open 33 = .ok (.iconst 0, 1) := by decide +kernel
theorem dX2_open_34 : decode cX2_open 34 = .ok (.iload_n 1, 1) := by decide +kernel
theorem dX2_open_35 : decode cX2_open 35 = .ok (.invokevirtual 50, 3) := by decide +kernel
theorem dX2_open_38 : decode cX2_open 38 = .ok (.aload_n 0, 1) := by decide +kernel
theorem dX2_open_39 : decode cX2_open 39 = .ok (.getfield 14, 3) := by decide +kernel
theorem dX2_open_42 : decode cX2_open 42 = .ok (.iload 4, 2) := by decide +kernel
theorem dX2_open_44 : decode cX2_open 44 = .ok (.iconst 1, 1) := by decide +kernel
theorem dX2_open_45 : decode cX2_open 45 = .ok (.iload_n 2, 1) := by decide +kernel
theorem dX2_open_46 : decode cX2_open 46 = .ok (.invokevirtual 50, 3) := by decide +kernel
theorem dX2_open_49 : decode cX2_open 49 = .ok (.aload_n 0, 1) := by decide +kernel
theorem dX2_open_50 : decode cX2_open 50 = .ok (.getfield 14, 3) := by decide +kernel
theorem dX2_open_53 : decode cX2_open 53 = .ok (.iload 4, 2) := by decide +kernel
theorem dX2_open_55 : decode cX2_open 55 = .ok (.iconst 2, 1) := by decide +kernel
theorem dX2_open_56 : decode cX2_open 56 = .ok (.iload_n 2, 1) := by decide +kernel
theorem dX2_open_57 : decode cX2_open 57 = .ok (.invokevirtual 50, 3) := by decide +kernel
theorem dX2_open_60 : decode cX2_open 60 = .ok (.aload_n 0, 1) := by decide +kernel
theorem dX2_open_61 : decode cX2_open 61 = .ok (.getfield 14, 3) := by decide +kernel
theorem dX2_open_64 : decode cX2_open 64 = .ok (.iload 4, 2) := by decide +kernel
theorem dX2_open_66 : decode cX2_open 66 = .ok (.iconst 3, 1) := by decide +kernel
theorem dX2_open_67 : decode cX2_open 67 = .ok (.iload_n 3, 1) := by decide +kernel
theorem dX2_open_68 : decode cX2_open 68 = .ok (.invokevirtual 50, 3) := by decide +kernel
theorem dX2_open_71 : decode cX2_open 71 = .ok (.aload_n 0, 1) := by decide +kernel
theorem dX2_open_72 : decode cX2_open 72 = .ok (.getfield 14, 3) := by decide +kernel
theorem dX2_open_75 : decode cX2_open 75 = .ok (.iload 4, 2) := by decide +kernel
theorem dX2_open_77 : decode cX2_open 77 = .ok (.iconst 4, 1) := by decide +kernel
theorem dX2_open_78 : decode cX2_open 78 = .ok (.iconst 1, 1) := by decide +kernel
theorem dX2_open_79 : decode cX2_open 79 = .ok (.invokevirtual 50, 3) := by decide +kernel
theorem dX2_open_82 : decode cX2_open 82 = .ok (.aload_n 0, 1) := by decide +kernel
theorem dX2_open_83 : decode cX2_open 83 = .ok (.getfield 24, 3) := by decide +kernel
theorem dX2_open_86 : decode cX2_open 86 = .ok (.iload_n 1, 1) := by decide +kernel
theorem dX2_open_87 : decode cX2_open 87 = .ok (.iconst 0, 1) := by decide +kernel
theorem dX2_open_88 : decode cX2_open 88 = .ok (.iload 4, 2) := by decide +kernel
theorem dX2_open_90 : decode cX2_open 90 = .ok (.invokevirtual 50, 3) := by decide +kernel
theorem dX2_open_93 : decode cX2_open 93 = .ok (.aload_n 0, 1) := by decide +kernel
theorem dX2_open_94 : decode cX2_open 94 = .ok (.dup, 1) := by decide +kernel
theorem dX2_open_95 : decode cX2_open 95 = .ok (.getfield 31, 3) := by decide +kernel
theorem dX2_open_98 : decode cX2_open 98 = .ok (.iconst 1, 1) := by decide +kernel
theorem dX2_open_99 : decode cX2_open 99 = .ok (.iadd, 1) := by decide +kernel
theorem dX2_open_100 : decode cX2_open 100 = .ok (.putfield 31, 3) := by decide +kernel
theorem dX2_open_103 : decode cX2_open 103 = .ok (.return_, 1) := by decide +kernel
set_option maxRecDepth 20000 in
theorem ggX2_dropIfFull_X9_get : GoodIn wsX2_dropIfFull wsX9_get := goodIn_r _ [12, 13, 14, 15, 20, 21, 22] (by decide +kernel) (by decide +kernel)
set_option maxRecDepth 20000 in
theorem gX2_dropIfFull_X9_get : GoodIn wsX2_dropIfFull (wsV RX2 39 RX9 yX9_get wsX9_get) := goodIn_app (goodIn_of _ (by decide +kernel)) ggX2_dropIfFull_X9_get
theorem dX2_dropIfFull_0 : decode cX2_dropIfFull 0 = .ok (.aload_n 0, 1) := by decide +kernel
theorem dX2_dropIfFull_1 : decode cX2_dropIfFull 1 = .ok (.getfield 20, 3) := by decide +kernel
theorem dX2_dropIfFull_4 : decode cX2_dropIfFull 4 = .ok (.arraylength, 1) := by decide +kernel
theorem dX2_dropIfFull_5 : decode cX2_dropIfFull 5 = .ok (.iconst 1, 1) := by decide +kernel
theorem dX2_dropIfFull_6 : decode cX2_dropIfFull 6 = .ok (.isub, 1) := by decide +kernel
theorem dX2_dropIfFull_7 : decode cX2_dropIfFull 7 = .ok (.istore_n 1, 1) := by decide +kernel
theorem dX2_dropIfFull_8 : decode cX2_dropIfFull 8 = .ok (.aload_n 0, 1) := by decide +kernel
theorem dX2_dropIfFull_9 : decode cX2_dropIfFull 9 = .ok (.getfield 31, 3) := by decide +kernel
theorem dX2_dropIfFull_12 : decode cX2_dropIfFull 12 = .ok (.iload_n 1, 1) := by decide +kernel
theorem dX2_dropIfFull_13 : decode cX2_dropIfFull 13 = .ok (.if_icmp .gt 4, 3) := by decide +kernel
theorem dX2_dropIfFull_16 : decode cX2_dropIfFull 16 = .ok (.return_, 1) := by decide +kernel
theorem dX2_dropIfFull_17 : decode cX2_dropIfFull 17 = .ok (.iconst 0, 1) := by decide +kernel
theorem dX2_dropIfFull_18 : decode cX2_dropIfFull 18 = .ok (.istore_n 2, 1) := by decide +kernel
theorem dX2_dropIfFull_19 : decode cX2_dropIfFull 19 = .ok (.iload_n 2, 1) := by decide +kernel
theorem dX2_dropIfFull_20 : decode cX2_dropIfFull 20 = .ok (.iload_n 1, 1) := by decide +kernel
theorem dX2_dropIfFull_21 : decode cX2_dropIfFull 21 = .ok (.if_icmp .gt 59, 3) := by decide +kernel
theorem dX2_dropIfFull_24 : decode cX2_dropIfFull 24 = .ok (.aload_n 0, 1) := by decide +kernel
theorem dX2_dropIfFull_25 : decode cX2_dropIfFull 25 = .ok (.getfield 20, 3) := by decide +kernel
theorem dX2_dropIfFull_28 : decode cX2_dropIfFull 28 = .ok (.iload_n 2, 1) := by decide +kernel
theorem dX2_dropIfFull_29 : decode cX2_dropIfFull 29 = .ok (.iaload, 1) := by decide +kernel
theorem dX2_dropIfFull_30 : decode cX2_dropIfFull 30 = .ok (.istore_n 3, 1) := by decide +kernel
theorem dX2_dropIfFull_31 : decode cX2_dropIfFull 31 = .ok (.aload_n 0, 1) := by decide +kernel
theorem dX2_dropIfFull_32 : decode cX2_dropIfFull 32 = .ok (.getfield 14, 3) := by decide +kernel
theorem dX2_dropIfFull_35 : decode cX2_dropIfFull 35 = .ok (.iload_n 3, 1) := by decide +kernel
theorem dX2_dropIfFull_36 : decode cX2_dropIfFull 36 = .ok (.iconst 4, 1) := by decide +kernel
theorem dX2_dropIfFull_37 : decode cX2_dropIfFull 37 = .ok (.invokevirtual 39, 3) := by decide +kernel
theorem dX2_dropIfFull_40 : decode cX2_dropIfFull 40 = .ok (.ifCond .ne 34, 3) := by decide +kernel
theorem dX2_dropIfFull_43 : decode cX2_dropIfFull 43 = .ok (.aload_n 0, 1) := by decide +kernel
theorem dX2_dropIfFull_44 : decode cX2_dropIfFull 44 = .ok (.getfield 20, 3) := by decide +kernel
theorem dX2_dropIfFull_47 : decode cX2_dropIfFull 47 = .ok (.iload_n 2, 1) := by decide +kernel
theorem dX2_dropIfFull_48 : decode cX2_dropIfFull 48 = .ok (.iconst 1, 1) := by decide +kernel
theorem dX2_dropIfFull_49 : decode cX2_dropIfFull 49 = .ok (.iadd, 1) := by decide +kernel
theorem dX2_dropIfFull_50 : decode cX2_dropIfFull 50 = .ok (.aload_n 0, 1) := by decide +kernel
theorem dX2_dropIfFull_51 : decode cX2_dropIfFull 51 = .ok (.getfield 20, 3) := by decide +kernel
theorem dX2_dropIfFull_54 : decode cX2_dropIfFull 54 = .ok (.iload_n 2, 1) := by decide +kernel
theorem dX2_dropIfFull_55 : decode cX2_dropIfFull 55 = .ok (.iload_n 1, 1) := by decide +kernel
theorem dX2_dropIfFull_56 : decode cX2_dropIfFull 56 = .ok (.iload_n 2, 1) := by decide +kernel
theorem dX2_dropIfFull_57 : decode cX2_dropIfFull 57 = .ok (.isub, 1) := by decide +kernel
theorem dX2_dropIfFull_58 : decode cX2_dropIfFull 58 = .ok (.invokestatic 53, 3) := by decide +kernel
theorem dX2_dropIfFull_61 : decode cX2_dropIfFull 61 = .ok (.aload_n 0, 1) := by decide +kernel
theorem dX2_dropIfFull_62 : decode cX2_dropIfFull 62 = .ok (.getfield 20, 3) := by decide +kernel
theorem dX2_dropIfFull_65 : decode cX2_dropIfFull 65 = .ok (.iload_n 1, 1) := by decide +kernel
theorem dX2_dropIfFull_66 : decode cX2_dropIfFull 66 = .ok (.iload_n 3, 1) := by decide +kernel
theorem dX2_dropIfFull_67 : decode cX2_dropIfFull 67 = .ok (.iastore, 1) := by decide +kernel
theorem dX2_dropIfFull_68 : decode cX2_dropIfFull 68 = .ok (.aload_n 0, 1) := by decide +kernel
theorem dX2_dropIfFull_69 : decode cX2_dropIfFull 69 = .ok (.iload_n 1, 1) := by decide +kernel
theorem dX2_dropIfFull_70 : decode cX2_dropIfFull 70 = .ok (.putfield 31, 3) := by decide +kernel
theorem dX2_dropIfFull_73 : decode cX2_dropIfFull 73 = .ok (.return_, 1) := by decide +kernel
theorem dX2_dropIfFull_74 : decode cX2_dropIfFull 74 = .ok (.iinc 2 1, 3) := by decide +kernel
theorem dX2_dropIfFull_77 : decode cX2_dropIfFull 77 = .ok (.goto (-58), 3) := by decide +kernel
theorem dX2_dropIfFull_80 : decode cX2_dropIfFull 80 = .ok (.return_, 1) := by decide +kernel
set_option maxRecDepth 20000 in
theorem ggX2_copyFrom_X9_copyFrom : GoodIn wsX2_copyFrom wsX9_copyFrom := goodIn_r _ [17, 18, 19, 4, 5, 6, 20, 8, 9, 10, 25, 26, 27] (by decide +kernel) (by decide +kernel)
set_option maxRecDepth 20000 in
theorem gX2_copyFrom_X9_copyFrom : GoodIn wsX2_copyFrom (wsV RX2 59 RX9 yX9_copyFrom wsX9_copyFrom) := goodIn_app (goodIn_of _ (by decide +kernel)) ggX2_copyFrom_X9_copyFrom
theorem dX2_copyFrom_0 : decode cX2_copyFrom 0 = .ok (.aload_n 0, 1) := by decide +kernel
theorem dX2_copyFrom_1 : decode cX2_copyFrom 1 = .ok (.getfield 14, 3) := by decide +kernel
theorem dX2_copyFrom_4 : decode cX2_copyFrom 4 = .ok (.aload_n 1, 1) := by decide +kernel
theorem dX2_copyFrom_5 : decode cX2_copyFrom 5 = .ok (.getfield 14, 3) := by decide +kernel
theorem dX2_copyFrom_8 : decode cX2_copyFrom 8 = .ok (.invokevirtual 59, 3) := by decide +kernel
theorem dX2_copyFrom_11 : decode cX2_copyFrom 11 = .ok (.aload_n 1, 1) := by decide +kernel
theorem dX2_copyFrom_12 : decode cX2_copyFrom 12 = .ok (.getfield 20, 3) := by decide +kernel
theorem dX2_copyFrom_15 : decode cX2_copyFrom 15 = .ok (.iconst 0, 1) := by decide +kernel
theorem dX2_copyFrom_16 : decode cX2_copyFrom 16 = .ok (.aload_n 0, 1) := by decide +kernel
theorem dX2_copyFrom_17 : decode cX2_copyFrom 17 = .ok (.getfield 20, 3) := by decide +kernel
theorem dX2_copyFrom_20 : decode cX2_copyFrom 20 = .ok (.iconst 0, 1) := by decide +kernel
theorem dX2_copyFrom_21 : decode cX2_copyFrom 21 = .ok (.aload_n 0, 1) := by decide +kernel
theorem dX2_copyFrom_22 : decode cX2_copyFrom 22 = .ok (.getfield 20, 3) := by decide +kernel
theorem dX2_copyFrom_25 : decode cX2_copyFrom 25 = .ok (.arraylength, 1) := by decide +kernel
theorem dX2_copyFrom_26 : decode cX2_copyFrom 26 = .ok (.aload_n 1, 1) := by decide +kernel
theorem dX2_copyFrom_27 : decode cX2_copyFrom 27 = .ok (.getfield 20, 3) := by decide +kernel
theorem dX2_copyFrom_30 : decode cX2_copyFrom 30 = .ok (.arraylength, 1) := by decide +kernel
theorem dX2_copyFrom_31 : decode cX2_copyFrom 31 = .ok (.invokestatic 63, 3) := by decide +kernel
theorem dX2_copyFrom_34 : decode cX2_copyFrom 34 = .ok (.invokestatic 53, 3) := by decide +kernel
theorem dX2_copyFrom_37 : decode cX2_copyFrom 37 = .ok (.aload_n 0, 1) := by decide +kernel
theorem dX2_copyFrom_38 : decode cX2_copyFrom 38 = .ok (.getfield 24, 3) := by decide +kernel
theorem dX2_copyFrom_41 : decode cX2_copyFrom 41 = .ok (.aload_n 1, 1) := by decide +kernel
theorem dX2_copyFrom_42 : decode cX2_copyFrom 42 = .ok (.getfield 24, 3) := by decide +kernel
theorem dX2_copyFrom_45 : decode cX2_copyFrom 45 = .ok (.invokevirtual 59, 3) := by decide +kernel
theorem dX2_copyFrom_48 : decode cX2_copyFrom 48 = .ok (.aload_n 0, 1) := by decide +kernel
theorem dX2_copyFrom_49 : decode cX2_copyFrom 49 = .ok (.aload_n 1, 1) := by decide +kernel
theorem dX2_copyFrom_50 : decode cX2_copyFrom 50 = .ok (.getfield 31, 3) := by decide +kernel
theorem dX2_copyFrom_53 : decode cX2_copyFrom 53 = .ok (.putfield 31, 3) := by decide +kernel
theorem dX2_copyFrom_56 : decode cX2_copyFrom 56 = .ok (.return_, 1) := by decide +kernel
set_option maxRecDepth 20000 in
theorem ggX3_init_X8_init : GoodIn wsX3_init wsX8_init := goodIn_r _ [9, 10, 2, 3, 11, 12, 13, 14, 15, 16, 17, 18, 19, 20, 21, 22, 23, 24, 25, 26, 27, 28, 29, 30, 31, 32, 33, 34, 35, 36, 37, 38, 39, 40, 41, 42, 43, 44, 45, 46, 47, 48, 49, 50, 51, 52, 53, 54, 55, 56, 57, 58, 59, 60, 61, 62, 63, 64, 65, 66, 67, 68, 69, 70, 71, 72, 73, 74, 75, 76, 77, 78, 79, 80, 81, 82, 83, 84, 85, 86, 87, 88, 89, 90, 103, 104, 94, 95, 96, 97, 98, 99, 100, 101, 102, 105, 106, 107, 108, 109, 110, 111, 112, 113, 114, 115, 116, 117, 118] (by decide +kernel) (by decide +kernel)
set_option maxRecDepth 20000 in
theorem gX3_init_X8_init_n17 : GoodIn wsX3_init (wsX8_init) := ggX3_init_X8_init
theorem dX3_init_0 : decode cX3_init 0 = .ok (.aload_n 0, 1) := by decide +kernel
theorem dX3_init_1 : decode cX3_init 1 = .ok (.invokespecial 3, 3) := by decide +kernel
theorem dX3_init_4 : decode cX3_init 4 = .ok (.aload_n 0, 1) := by decide +kernel
theorem dX3_init_5 : decode cX3_init 5 = .ok (.iconst 4, 1) := by decide +kernel
theorem dX3_init_6 : decode cX3_init 6 = .ok (.anewarray 9, 3) := by decide +kernel
theorem dX3_init_9 : decode cX3_init 9 = .ok (.putfield 11, 3) := by decide +kernel
theorem dX3_init_12 : decode cX3_init 12 = .ok (.iconst 0, 1) := by decide +kernel
theorem dX3_init_13 : decode cX3_init 13 = .ok (.istore_n 1, 1) := by decide +kernel
theorem dX3_init_14 : decode cX3_init 14 = .ok (.iload_n 1, 1) := by decide +kernel
theorem dX3_init_15 : decode cX3_init 15 = .ok (.aload_n 0, 1) := by decide +kernel
theorem dX3_init_16 : decode cX3_init 16 = .ok (.getfield 11, 3) := by decide +kernel
theorem dX3_init_19 : decode cX3_init 19 = .ok (.arraylength, 1) := by decide +kernel
theorem dX3_init_20 : decode cX3_init 20 = .ok (.if_icmp .ge 22, 3) := by decide +kernel
theorem dX3_init_23 : decode cX3_init 23 = .ok (.aload_n 0, 1) := by decide +kernel
theorem dX3_init_24 : decode cX3_init 24 = .ok (.getfield 11, 3) := by decide +kernel
theorem dX3_init_27 : decode cX3_init 27 = .ok (.iload_n 1, 1) := by decide +kernel
theorem dX3_init_28 : decode cX3_init 28 = .ok (.new 9, 3) := by decide +kernel
theorem dX3_init_31 : decode cX3_init 31 = .ok (.dup, 1) := by decide +kernel
theorem dX3_init_32 : decode cX3_init 32 = .ok (.invokespecial 17, 3) := by decide +kernel
theorem dX3_init_35 : decode cX3_init 35 = .ok (.aastore, 1) := by decide +kernel
theorem dX3_init_36 : decode cX3_init 36 = .ok (.iinc 1 1, 3) := by decide +kernel
theorem dX3_init_39 : decode cX3_init 39 = .ok (.goto (-25), 3) := by decide +kernel
theorem dX3_init_42 : decode cX3_init 42 = .ok (.return_, 1) := by decide +kernel
set_option maxRecDepth 20000 in
theorem ggX3_save_X3_stateAt : GoodIn wsX3_save wsX3_stateAt := goodIn_r _ [12, 2, 13, 14, 15, 79, 80, 81] (by decide +kernel) (by decide +kernel)
set_option maxRecDepth 20000 in
theorem gX3_save_X3_stateAt : GoodIn wsX3_save (wsV RX3 22 RX3 yX3_stateAt wsX3_stateAt) := goodIn_app (goodIn_of _ (by decide +kernel)) ggX3_save_X3_stateAt
set_option maxRecDepth 20000 in
theorem ggX3_save_X8_copyFrom : GoodIn wsX3_save wsX8_copyFrom := goodIn_r _ [20, 21, 22, 23, 24, 25, 26, 27, 28, 29, 30, 31, 32, 33, 34, 35, 36, 37, 38, 39, 40, 41, 42, 43, 5, 6, 7, 44, 45, 46, 47, 48, 49, 50, 51, 52, 53, 54, 55, 56, 57, 58, 59, 60, 61, 62, 63, 64, 65, 66, 67, 68, 69, 70, 71, 72, 73, 74, 75, 76, 77, 78, 82, 83, 84, 85, 86, 87, 88, 89, 90, 91, 92, 93, 94, 95, 96, 97, 98, 99, 100, 101, 102, 103, 104, 105, 106] (by decide +kernel) (by decide +kernel)
set_option maxRecDepth 20000 in
theorem gX3_save_X8_copyFrom : GoodIn wsX3_save (wsV RX3 26 RX8 yX8_copyFrom wsX8_copyFrom) := goodIn_app (goodIn_of _ (by decide +kernel)) ggX3_save_X8_copyFrom
theorem dX3_save_0 : decode cX3_save 0 = .ok (.aload_n 0, 1) := by decide +kernel
theorem dX3_save_1 : decode cX3_save 1 = .ok (.aload_n 0, 1) := by decide +kernel
theorem dX3_save_2 : decode cX3_save 2 = .ok (.getfield 18, 3) := by decide +kernel
theorem dX3_save_5 : decode cX3_save 5 = .ok (.invokevirtual 22, 3) := by decide +kernel
theorem dX3_save_8 : decode cX3_save 8 = .ok (.astore_n 2, 1) := by decide +kernel
theorem dX3_save_9 : decode cX3_save 9 = .ok (.aload_n 2, 1) := by decide +kernel
theorem dX3_save_10 : decode cX3_save 10 = .ok (.ifnull 54, 3) := by decide +kernel
theorem dX3_save_13 : decode cX3_save 13 = .ok (.aload_n 2, 1) := by decide +kernel
theorem dX3_save_14 : decode cX3_save 14 = .ok (.aload_n 1, 1) := by decide +kernel
theorem dX3_save_15 : decode cX3_save 15 = .ok (.invokevirtual 26, 3) := by decide +kernel
theorem dX3_save_18 : decode cX3_save 18 = .ok (.aload_n 0, 1) := by decide +kernel
theorem dX3_save_19 : decode cX3_save 19 = .ok (.aload_n 0, 1) := by decide +kernel
theorem dX3_save_20 : decode cX3_save 20 = .ok (.getfield 18, 3) := by decide +kernel
theorem dX3_save_23 : decode cX3_save 23 = .ok (.iconst 1, 1) := by decide +kernel
theorem dX3_save_24 : decode cX3_save 24 = .ok (.iadd, 1) := by decide +kernel
theorem dX3_save_25 : decode cX3_save 25 = .ok (.aload_n 0, 1) := by decide +kernel
theorem dX3_save_26 : decode cX3_save 26 = .ok (.getfield 11, 3) := by decide +kernel
theorem dX3_save_29 : decode cX3_save 29 = .ok (.arraylength, 1) := by decide +kernel
theorem dX3_save_30 : decode cX3_save 30 = .ok (.if_icmp .ge 12, 3) := by decide +kernel
theorem dX3_save_33 : decode cX3_save 33 = .ok (.aload_n 0, 1) := by decide +kernel
theorem dX3_save_34 : decode cX3_save 34 = .ok (.getfield 18, 3) := by decide +kernel
theorem dX3_save_37 : decode cX3_save 37 = .ok (.iconst 1, 1) := by decide +kernel
theorem dX3_save_38 : decode cX3_save 38 = .ok (.iadd, 1) := by decide +kernel
theorem dX3_save_39 : decode cX3_save 39 = .ok (.goto 4, 3) := by decide +kernel
theorem dX3_save_42 : decode cX3_save 42 = .ok (.iconst 0, 1) := by decide +kernel
theorem dX3_save_43 : decode cX3_save 43 = .ok (.putfield 18, 3) := by decide +kernel
theorem dX3_save_46 : decode cX3_save 46 = .ok (.aload_n 0, 1) := by decide +kernel
theorem dX3_save_47 : decode cX3_save 47 = .ok (.aload_n 0, 1) := by decide +kernel
theorem dX3_save_48 : decode cX3_save 48 = .ok (.getfield 30, 3) := by decide +kernel
theorem dX3_save_51 : decode cX3_save 51 = .ok (.iconst 1, 1) := by decide +kernel
theorem dX3_save_52 : decode cX3_save 52 = .ok (.iadd, 1) := by decide +kernel
theorem dX3_save_53 : decode cX3_save 53 = .ok (.aload_n 0, 1) := by decide +kernel
theorem dX3_save_54 : decode cX3_save 54 = .ok (.getfield 11, 3) := by decide +kernel
theorem dX3_save_57 : decode cX3_save 57 = .ok (.arraylength, 1) := by decide +kernel
theorem dX3_save_58 : decode cX3_save 58 = .ok (.invokestatic 33, 3) := by decide +kernel
theorem dX3_save_61 : decode cX3_save 61 = .ok (.putfield 30, 3) := by decide +kernel
theorem dX3_save_64 : decode cX3_save 64 = .ok (.return_, 1) := by decide +kernel
set_option maxRecDepth 20000 in
theorem ggX3_restore_X3_stateAt : GoodIn wsX3_restore wsX3_stateAt := goodIn_r _ [8, 2, 9, 10, 11, 78, 79, 80] (by decide +kernel) (by decide +kernel)
set_option maxRecDepth 20000 in
theorem gX3_restore_X3_stateAt : GoodIn wsX3_restore (wsV RX3 22 RX3 yX3_stateAt wsX3_stateAt) := goodIn_app (goodIn_of _ (by decide +kernel)) ggX3_restore_X3_stateAt
set_option maxRecDepth 20000 in
theorem ggX3_restore_X8_copyFrom : GoodIn wsX3_restore wsX8_copyFrom := goodIn_r _ [16, 17, 18, 19, 20, 21, 22, 23, 24, 25, 26, 27, 28, 29, 30, 31, 32, 33, 34, 35, 36, 37, 38, 39, 40, 41, 42, 43, 44, 45, 46, 47, 48, 49, 50, 51, 52, 53, 54, 55, 56, 57, 58, 59, 60, 61, 62, 63, 64, 65, 66, 67, 68, 69, 70, 71, 72, 73, 74, 75, 76, 77, 81, 82, 83, 84, 85, 86, 87, 88, 89, 90, 91, 92, 93, 94, 95, 96, 97, 98, 99, 100, 101, 102, 103, 104, 105] (by decide +kernel) (by decide +kernel)
set_option maxRecDepth 20000 in
theorem gX3_restore_X8_copyFrom : GoodIn wsX3_restore (wsV RX3 26 RX8 yX8_copyFrom wsX8_copyFrom) := goodIn_app (goodIn_of _ (by decide +kernel)) ggX3_restore_X8_copyFrom
theorem dX3_restore_0 : decode cX3_restore 0 = .ok (.aload_n 0, 1) := by decide +kernel
theorem dX3_restore_1 : decode cX3_restore 1 = .ok (.getfield 18, 3) := by decide +kernel
theorem dX3_restore_4 : decode cX3_restore 4 = .ok (.ifCond .le 12, 3) := by decide +kernel
theorem dX3_restore_7 : decode cX3_restore 7 = .ok (.aload_n 0, 1) := by decide +kernel
theorem dX3_restore_8 : decode cX3_restore 8 = .ok (.getfield 18, 3) := by decide +kernel
theorem dX3_restore_11 : decode cX3_restore 11 = .ok (.iconst 1, 1) := by decide +kernel
theorem dX3_restore_12 : decode cX3_restore 12 = .ok (.isub, 1) := by decide +kernel
theorem dX3_restore_13 : decode cX3_restore 13 = .ok (.goto 10, 3) := by decide +kernel
theorem dX3_restore_16 : decode cX3_restore 16 = .ok (.aload_n 0, 1) := by decide +kernel
theorem dX3_restore_17 : decode cX3_restore 17 = .ok (.getfield 11, 3) := by decide +kernel
theorem dX3_restore_20 : decode cX3_restore 20 = .ok (.arraylength, 1) := by decide +kernel
theorem dX3_restore_21 : decode cX3_restore 21 = .ok (.iconst 1, 1) := by decide +kernel
theorem dX3_restore_22 : decode cX3_restore 22 = .ok (.isub, 1) := by decide +kernel
theorem dX3_restore_23 : decode cX3_restore 23 = .ok (.istore_n 2, 1) := by decide +kernel
theorem dX3_restore_24 : decode cX3_restore 24 = .ok (.aload_n 0, 1) := by decide +kernel
theorem dX3_restore_25 : decode cX3_restore 25 = .ok (.iload_n 2, 1) := by decide +kernel
theorem dX3_restore_26 : decode cX3_restore 26 = .ok (.invokevirtual 22, 3) := by decide +kernel
theorem dX3_restore_29 : decode cX3_restore 29 = .ok (.astore_n 3, 1) := by decide +kernel
theorem dX3_restore_30 : decode cX3_restore 30 = .ok (.aload_n 3, 1) := by decide +kernel
theorem dX3_restore_31 : decode cX3_restore 31 = .ok (.ifnull 30, 3) := by decide +kernel
theorem dX3_restore_34 : decode cX3_restore 34 = .ok (.aload_n 0, 1) := by decide +kernel
theorem dX3_restore_35 : decode cX3_restore 35 = .ok (.getfield 30, 3) := by decide +kernel
theorem dX3_restore_38 : decode cX3_restore 38 = .ok (.ifCond .le 23, 3) := by decide +kernel
theorem dX3_restore_41 : decode cX3_restore 41 = .ok (.aload_n 1, 1) := by decide +kernel
theorem dX3_restore_42 : decode cX3_restore 42 = .ok (.aload_n 3, 1) := by decide +kernel
theorem dX3_restore_43 : decode cX3_restore 43 = .ok (.invokevirtual 26, 3) := by decide +kernel
theorem dX3_restore_46 : decode cX3_restore 46 = .ok (.aload_n 0, 1) := by decide +kernel
theorem dX3_restore_47 : decode cX3_restore 47 = .ok (.iload_n 2, 1) := by decide +kernel
theorem dX3_restore_48 : decode cX3_restore 48 = .ok (.putfield 18, 3) := by decide +kernel
theorem dX3_restore_51 : decode cX3_restore 51 = .ok (.aload_n 0, 1) := by decide +kernel
theorem dX3_restore_52 : decode cX3_restore 52 = .ok (.dup, 1) := by decide +kernel
theorem dX3_restore_53 : decode cX3_restore 53 = .ok (.getfield 30, 3) := by decide +kernel
theorem dX3_restore_56 : decode cX3_restore 56 = .ok (.iconst 1, 1) := by decide +kernel
theorem dX3_restore_57 : decode cX3_restore 57 = .ok (.isub, 1) := by decide +kernel
theorem dX3_restore_58 : decode cX3_restore 58 = .ok (.putfield 30, 3) := by decide +kernel
theorem dX3_restore_61 : decode cX3_restore 61 = .ok (.return_, 1) := by decide +kernel
set_option maxRecDepth 20000 in
theorem ggX3_stateAt_X10_within : GoodIn wsX3_stateAt wsX10_within := goodIn_r _ [4] (by decide +kernel) (by decide +kernel)
set_option maxRecDepth 20000 in
theorem gX3_stateAt_X10_within_n39 : GoodIn wsX3_stateAt (wsX10_within) := ggX3_stateAt_X10_within
theorem dX3_stateAt_0 : decode cX3_stateAt 0 = .ok (.iload_n 1, 1) := by decide +kernel
theorem dX3_stateAt_1 : decode cX3_stateAt 1 = .ok (.aload_n 0, 1) := by decide +kernel
theorem dX3_stateAt_2 : decode cX3_stateAt 2 = .ok (.getfield 11, 3) := by decide +kernel
theorem dX3_stateAt_5 : decode cX3_stateAt 5 = .ok (.arraylength, 1) := by decide +kernel
theorem dX3_stateAt_6 : decode cX3_stateAt 6 = .ok (.invokestatic 39, 3) := by decide +kernel
theorem dX3_stateAt_9 : decode cX3_stateAt 9 = .ok (.ifCond .eq 12, 3) := by decide +kernel
theorem dX3_stateAt_12 : decode cX3_stateAt 12 = .ok (.aload_n 0, 1) := by decide +kernel
theorem dX3_stateAt_13 : decode cX3_stateAt 13 = .ok (.getfield 11, 3) := by decide +kernel
theorem dX3_stateAt_16 : decode cX3_stateAt 16 = .ok (.iload_n 1, 1) := by decide +kernel
theorem dX3_stateAt_17 : decode cX3_stateAt 17 = .ok (.aaload, 1) := by decide +kernel
theorem dX3_stateAt_18 : decode cX3_stateAt 18 = .ok (.goto 4, 3) := by decide +kernel
theorem dX3_stateAt_21 : decode cX3_stateAt 21 = .ok (.aconst_null, 1) := by decide +kernel
theorem dX3_stateAt_22 : decode cX3_stateAt 22 = .ok (.areturn, 1) := by decide +kernel
theorem dX4_init_0 : decode cX4_init 0 = .ok (.aload_n 0, 1) := by decide +kernel
theorem dX4_init_1 : decode cX4_init 1 = .ok (.invokespecial 3, 3) := by decide +kernel
theorem dX4_init_4 : decode cX4_init 4 = .ok (.aload_n 0, 1) := by decide +kernel
theorem dX4_init_5 : decode cX4_init 5 = .ok (.bipush 50, 2) := by decide +kernel
theorem dX4_init_7 : decode cX4_init 7 = .ok (.newarray .int, 2) := by decide +kernel
theorem dX4_init_9 : decode cX4_init 9 = .ok (.putfield 9, 3) := by decide +kernel
theorem dX4_init_12 : decode cX4_init 12 = .ok (.aload_n 0, 1) := by decide +kernel
theorem dX4_init_13 : decode cX4_init 13 = .ok (.bipush 50, 2) := by decide +kernel
theorem dX4_init_15 : decode cX4_init 15 = .ok (.newarray .int, 2) := by decide +kernel
theorem dX4_init_17 : decode cX4_init 17 = .ok (.putfield 15, 3) := by decide +kernel
theorem dX4_init_20 : decode cX4_init 20 = .ok (.aload_n 0, 1) := by decide +kernel
theorem dX4_init_21 : decode cX4_init 21 = .ok (.bipush 50, 2) := by decide +kernel
theorem dX4_init_23 : decode cX4_init 23 = .ok (.newarray .int, 2) := by decide +kernel
theorem dX4_init_25 : decode cX4_init 25 = .ok (.putfield 18, 3) := by decide +kernel
theorem dX4_init_28 : decode cX4_init 28 = .ok (.return_, 1) := by decide +kernel
set_option maxRecDepth 20000 in
theorem ggX4_find_J7_fill_53178 : GoodIn wsX4_find wsJ7_fill_53178 := goodIn_r _ [12] (by decide +kernel) (by decide +kernel)
set_option maxRecDepth 20000 in
theorem gX4_find_J7_fill_53178 : GoodIn wsX4_find (va_wsS RX4 34 yJ7_fill_53178 wsJ7_fill_53178) := goodIn_app (goodIn_of _ (by decide +kernel)) ggX4_find_J7_fill_53178
set_option maxRecDepth 20000 in
theorem ggX4_find_X4_findPredecessor : GoodIn wsX4_find wsX4_findPredecessor := goodIn_r _ [17, 6, 18, 19, 20, 21, 22, 23, 24, 25, 26, 27, 28, 29, 30, 31, 32, 33, 34, 35, 36, 37, 16, 38, 39, 40, 3, 41, 46, 47, 48, 49, 42, 43, 44, 45, 50, 51, 52] (by decide +kernel) (by decide +kernel)
set_option maxRecDepth 20000 in
theorem gX4_find_X4_findPredecessor : GoodIn wsX4_find (wsV RX4 40 RX4 yX4_findPredecessor wsX4_findPredecessor) := goodIn_app (goodIn_of _ (by decide +kernel)) ggX4_find_X4_findPredecessor
set_option maxRecDepth 20000 in
theorem ggX4_find_X10_within : GoodIn wsX4_find wsX10_within := goodIn_r _ [27] (by decide +kernel) (by decide +kernel)
set_option maxRecDepth 20000 in
theorem gX4_find_X10_within_n44 : GoodIn wsX4_find (wsX10_within) := ggX4_find_X10_within
theorem dX4_find_0 : decode cX4_find 0 = .ok (.aload_n 0, 1) := by decide +kernel
theorem dX4_find_1 : decode cX4_find 1 = .ok (.aload_n 1, 1) := by decide +kernel
theorem dX4_find_2 : decode cX4_find 2 = .ok (.getfield 21, 3) := by decide +kernel
theorem dX4_find_5 : decode cX4_find 5 = .ok (.bipush 50, 2) := by decide +kernel
theorem dX4_find_7 : decode cX4_find 7 = .ok (.invokestatic 27, 3) := by decide +kernel
theorem dX4_find_10 : decode cX4_find 10 = .ok (.putfield 33, 3) := by decide +kernel
theorem dX4_find_13 : decode cX4_find 13 = .ok (.aload_n 0, 1) := by decide +kernel
theorem dX4_find_14 : decode cX4_find 14 = .ok (.getfield 15, 3) := by decide +kernel
theorem dX4_find_17 : decode cX4_find 17 = .ok (.iconst (-1), 1) := by decide +kernel
theorem dX4_find_18 : decode cX4_find 18 = .ok (.invokestatic 34, 3) := by decide +kernel
theorem dX4_find_21 : decode cX4_find 21 = .ok (.iconst 0, 1) := by decide +kernel
theorem dX4_find_22 : decode cX4_find 22 = .ok (.istore 4, 2) := by decide +kernel
theorem dX4_find_24 : decode cX4_find 24 = .ok (.iload 4, 2) := by decide +kernel
theorem dX4_find_26 : decode cX4_find 26 = .ok (.aload_n 0, 1) := by decide +kernel
theorem dX4_find_27 : decode cX4_find 27 = .ok (.getfield 33, 3) := by decide +kernel
theorem dX4_find_30 : decode cX4_find 30 = .ok (.if_icmp .ge 71, 3) := by decide +kernel
theorem dX4_find_33 : decode cX4_find 33 = .ok (.aload_n 0, 1) := by decide +kernel
theorem dX4_find_34 : decode cX4_find 34 = .ok (.aload_n 1, 1) := by decide +kernel
theorem dX4_find_35 : decode cX4_find 35 = .ok (.iload 4, 2) := by decide +kernel
theorem dX4_find_37 : decode cX4_find 37 = .ok (.iload_n 2, 1) := by decide +kernel
theorem dX4_find_38 : decode cX4_find 38 = .ok (.iload_n 3, 1) := by decide +kernel
theorem dX4_find_39 : decode cX4_find 39 = .ok (.invokevirtual 40, 3) := by decide +kernel
theorem dX4_find_42 : decode cX4_find 42 = .ok (.istore 5, 2) := by decide +kernel
theorem dX4_find_44 : decode cX4_find 44 = .ok (.aload_n 0, 1) := by decide +kernel
theorem dX4_find_45 : decode cX4_find 45 = .ok (.getfield 9, 3) := by decide +kernel
theorem dX4_find_48 : decode cX4_find 48 = .ok (.iload 4, 2) := by decide +kernel
theorem dX4_find_50 : decode cX4_find 50 = .ok (.iload 5, 2) := by decide +kernel
theorem dX4_find_52 : decode cX4_find 52 = .ok (.iastore, 1) := by decide +kernel
theorem dX4_find_53 : decode cX4_find 53 = .ok (.aload_n 0, 1) := by decide +kernel
theorem dX4_find_54 : decode cX4_find 54 = .ok (.getfield 18, 3) := by decide +kernel
theorem dX4_find_57 : decode cX4_find 57 = .ok (.iload 4, 2) := by decide +kernel
theorem dX4_find_59 : decode cX4_find 59 = .ok (.iload 4, 2) := by decide +kernel
theorem dX4_find_61 : decode cX4_find 61 = .ok (.iastore, 1) := by decide +kernel
theorem dX4_find_62 : decode cX4_find 62 = .ok (.iload 5, 2) := by decide +kernel
theorem dX4_find_64 : decode cX4_find 64 = .ok (.iload 4, 2) := by decide +kernel
theorem dX4_find_66 : decode cX4_find 66 = .ok (.invokestatic 44, 3) := by decide +kernel
theorem dX4_find_69 : decode cX4_find 69 = .ok (.ifCond .eq 26, 3) := by decide +kernel
theorem dX4_find_72 : decode cX4_find 72 = .ok (.aload_n 0, 1) := by decide +kernel
theorem dX4_find_73 : decode cX4_find 73 = .ok (.getfield 15, 3) := by decide +kernel
theorem dX4_find_76 : decode cX4_find 76 = .ok (.iload 5, 2) := by decide +kernel
theorem dX4_find_78 : decode cX4_find 78 = .ok (.iload 4, 2) := by decide +kernel
theorem dX4_find_80 : decode cX4_find 80 = .ok (.iastore, 1) := by decide +kernel
theorem dX4_find_81 : decode cX4_find 81 = .ok (.aload_n 0, 1) := by decide +kernel
theorem dX4_find_82 : decode cX4_find 82 = .ok (.getfield 18, 3) := by decide +kernel
theorem dX4_find_85 : decode cX4_find 85 = .ok (.iload 4, 2) := by decide +kernel
theorem dX4_find_87 : decode cX4_find 87 = .ok (.aload_n 0, 1) := by decide +kernel
theorem dX4_find_88 : decode cX4_find 88 = .ok (.getfield 18, 3) := by decide +kernel
theorem dX4_find_91 : decode cX4_find 91 = .ok (.iload 5, 2) := by decide +kernel
theorem dX4_find_93 : decode cX4_find 93 = .ok (.iaload, 1) := by decide +kernel
theorem dX4_find_94 : decode cX4_find 94 = .ok (.iastore, 1) := by decide +kernel
theorem dX4_find_95 : decode cX4_find 95 = .ok (.iinc 4 1, 3) := by decide +kernel
theorem dX4_find_98 : decode cX4_find 98 = .ok (.goto (-74), 3) := by decide +kernel
theorem dX4_find_101 : decode cX4_find 101 = .ok (.return_, 1) := by decide +kernel
set_option maxRecDepth 20000 in
theorem ggX4_findPredecessor_X2_read : GoodIn wsX4_findPredecessor wsX2_read := goodIn_r _ [6, 7, 8, 9, 10, 11, 12, 13, 14, 15, 16, 17, 18, 19, 32, 33, 34, 35, 36, 37, 38] (by decide +kernel) (by decide +kernel)
set_option maxRecDepth 20000 in
theorem gX4_findPredecessor_X2_read : GoodIn wsX4_findPredecessor (wsV RX4 48 RX2 yX2_read wsX2_read) := goodIn_app (goodIn_of _ (by decide +kernel)) ggX4_findPredecessor_X2_read
set_option maxRecDepth 20000 in
theorem ggX4_findPredecessor_X4_fits : GoodIn wsX4_findPredecessor wsX4_fits := goodIn_r _ [23, 24, 25, 26, 27, 2, 3, 4, 5, 6, 7, 8, 9, 10, 11, 12, 13, 14, 15, 16, 17, 18, 19, 32, 33, 34, 35, 36, 37, 38] (by decide +kernel) (by decide +kernel)
set_option maxRecDepth 20000 in
theorem gX4_findPredecessor_X4_fits : GoodIn wsX4_findPredecessor (va_wsS RX4 51 yX4_fits wsX4_fits) := goodIn_app (goodIn_of _ (by decide +kernel)) ggX4_findPredecessor_X4_fits
theorem dX4_findPredecessor_0 : decode cX4_findPredecessor 0 = .ok (.iconst (-1), 1) := by decide +kernel
theorem dX4_findPredecessor_1 : decode cX4_findPredecessor 1 = .ok (.istore 5, 2) := by decide +kernel
theorem dX4_findPredecessor_3 : decode cX4_findPredecessor 3 = .ok (.iconst (-1), 1) := by decide +kernel
theorem dX4_findPredecessor_4 : decode cX4_findPredecessor 4 = .ok (.istore 6, 2) := by decide +kernel
theorem dX4_findPredecessor_6 : decode cX4_findPredecessor 6 = .ok (.iconst 0, 1) := by decide +kernel
theorem dX4_findPredecessor_7 : decode cX4_findPredecessor 7 = .ok (.istore 7, 2) := by decide +kernel
theorem dX4_findPredecessor_9 : decode cX4_findPredecessor 9 = .ok (.iload 7, 2) := by decide +kernel
theorem dX4_findPredecessor_11 : decode cX4_findPredecessor 11 = .ok (.iload_n 2, 1) := by decide +kernel
theorem dX4_findPredecessor_12 : decode cX4_findPredecessor 12 = .ok (.if_icmp .ge 69, 3) := by decide +kernel
theorem dX4_findPredecessor_15 : decode cX4_findPredecessor 15 = .ok (.aload_n 1, 1) := by decide +kernel
theorem dX4_findPredecessor_16 : decode cX4_findPredecessor 16 = .ok (.iload 7, 2) := by decide +kernel
theorem dX4_findPredecessor_18 : decode cX4_findPredecessor 18 = .ok (.iconst 2, 1) := by decide +kernel
theorem dX4_findPredecessor_19 : decode cX4_findPredecessor 19 = .ok (.invokevirtual 48, 3) := by decide +kernel
theorem dX4_findPredecessor_22 : decode cX4_findPredecessor 22 = .ok (.istore 8, 2) := by decide +kernel
theorem dX4_findPredecessor_24 : decode cX4_findPredecessor 24 = .ok (.aload_n 0, 1) := by decide +kernel
theorem dX4_findPredecessor_25 : decode cX4_findPredecessor 25 = .ok (.getfield 15, 3) := by decide +kernel
theorem dX4_findPredecessor_28 : decode cX4_findPredecessor 28 = .ok (.iload 7, 2) := by decide +kernel
theorem dX4_findPredecessor_30 : decode cX4_findPredecessor 30 = .ok (.iaload, 1) := by decide +kernel
theorem dX4_findPredecessor_31 : decode cX4_findPredecessor 31 = .ok (.iconst (-1), 1) := by decide +kernel
theorem dX4_findPredecessor_32 : decode cX4_findPredecessor 32 = .ok (.if_icmp .ne 7, 3) := by decide +kernel
theorem dX4_findPredecessor_35 : decode cX4_findPredecessor 35 = .ok (.iconst 1, 1) := by decide +kernel
theorem dX4_findPredecessor_36 : decode cX4_findPredecessor 36 = .ok (.goto 4, 3) := by decide +kernel
theorem dX4_findPredecessor_39 : decode cX4_findPredecessor 39 = .ok (.iconst 0, 1) := by decide +kernel
theorem dX4_findPredecessor_40 : decode cX4_findPredecessor 40 = .ok (.istore 9, 2) := by decide +kernel
theorem dX4_findPredecessor_42 : decode cX4_findPredecessor 42 = .ok (.iload 9, 2) := by decide +kernel
theorem dX4_findPredecessor_44 : decode cX4_findPredecessor 44 = .ok (.ifCond .eq 31, 3) := by decide +kernel
theorem dX4_findPredecessor_47 : decode cX4_findPredecessor 47 = .ok (.iload 8, 2) := by decide +kernel
theorem dX4_findPredecessor_49 : decode cX4_findPredecessor 49 = .ok (.iload 6, 2) := by decide +kernel
theorem dX4_findPredecessor_51 : decode cX4_findPredecessor 51 = .ok (.if_icmp .lt 24, 3) := by decide +kernel
theorem dX4_findPredecessor_54 : decode cX4_findPredecessor 54 = .ok (.aload_n 1, 1) := by decide +kernel
theorem dX4_findPredecessor_55 : decode cX4_findPredecessor 55 = .ok (.iload 7, 2) := by decide +kernel
theorem dX4_findPredecessor_57 : decode cX4_findPredecessor 57 = .ok (.iload_n 2, 1) := by decide +kernel
theorem dX4_findPredecessor_58 : decode cX4_findPredecessor 58 = .ok (.iload_n 3, 1) := by decide +kernel
theorem dX4_findPredecessor_59 : decode cX4_findPredecessor 59 = .ok (.iload 4, 2) := by decide +kernel
theorem dX4_findPredecessor_61 : decode cX4_findPredecessor 61 = .ok (.invokestatic 51, 3) := by decide +kernel
theorem dX4_findPredecessor_64 : decode cX4_findPredecessor 64 = .ok (.ifCond .eq 11, 3) := by decide +kernel
theorem dX4_findPredecessor_67 : decode cX4_findPredecessor 67 = .ok (.iload 7, 2) := by decide +kernel
theorem dX4_findPredecessor_69 : decode cX4_findPredecessor 69 = .ok (.istore 5, 2) := by decide +kernel
theorem dX4_findPredecessor_71 : decode cX4_findPredecessor 71 = .ok (.iload 8, 2) := by decide +kernel
theorem dX4_findPredecessor_73 : decode cX4_findPredecessor 73 = .ok (.istore 6, 2) := by decide +kernel
theorem dX4_findPredecessor_75 : decode cX4_findPredecessor 75 = .ok (.iinc 7 1, 3) := by decide +kernel
theorem dX4_findPredecessor_78 : decode cX4_findPredecessor 78 = .ok (.goto (-69), 3) := by decide +kernel
theorem dX4_findPredecessor_81 : decode cX4_findPredecessor 81 = .ok (.iload 5, 2) := by decide +kernel
theorem dX4_findPredecessor_83 : decode cX4_findPredecessor 83 = .ok (.ireturn, 1) := by decide +kernel
set_option maxRecDepth 20000 in
theorem ggX4_fits_X2_read : GoodIn wsX4_fits wsX2_read := goodIn_r _ [9, 10, 11, 12, 13, 14, 15, 16, 17, 18, 19, 20, 21, 22, 23, 24, 25, 26, 27, 28, 29] (by decide +kernel) (by decide +kernel)
set_option maxRecDepth 20000 in
theorem gX4_fits_X2_read : GoodIn wsX4_fits (wsV RX4 48 RX2 yX2_read wsX2_read) := goodIn_app (goodIn_of _ (by decide +kernel)) ggX4_fits_X2_read
theorem dX4_fits_0 : decode cX4_fits 0 = .ok (.aload_n 0, 1) := by decide +kernel
theorem dX4_fits_1 : decode cX4_fits 1 = .ok (.iload_n 2, 1) := by decide +kernel
theorem dX4_fits_2 : decode cX4_fits 2 = .ok (.iconst 1, 1) := by decide +kernel
theorem dX4_fits_3 : decode cX4_fits 3 = .ok (.invokevirtual 48, 3) := by decide +kernel
theorem dX4_fits_6 : decode cX4_fits 6 = .ok (.aload_n 0, 1) := by decide +kernel
theorem dX4_fits_7 : decode cX4_fits 7 = .ok (.iload_n 1, 1) := by decide +kernel
theorem dX4_fits_8 : decode cX4_fits 8 = .ok (.iconst 2, 1) := by decide +kernel
theorem dX4_fits_9 : decode cX4_fits 9 = .ok (.invokevirtual 48, 3) := by decide +kernel
theorem dX4_fits_12 : decode cX4_fits 12 = .ok (.isub, 1) := by decide +kernel
theorem dX4_fits_13 : decode cX4_fits 13 = .ok (.istore 5, 2) := by decide +kernel
theorem dX4_fits_15 : decode cX4_fits 15 = .ok (.aload_n 0, 1) := by decide +kernel
theorem dX4_fits_16 : decode cX4_fits 16 = .ok (.iload_n 2, 1) := by decide +kernel
theorem dX4_fits_17 : decode cX4_fits 17 = .ok (.iconst 3, 1) := by decide +kernel
theorem dX4_fits_18 : decode cX4_fits 18 = .ok (.invokevirtual 48, 3) := by decide +kernel
theorem dX4_fits_21 : decode cX4_fits 21 = .ok (.aload_n 0, 1) := by decide +kernel
theorem dX4_fits_22 : decode cX4_fits 22 = .ok (.iload_n 1, 1) := by decide +kernel
theorem dX4_fits_23 : decode cX4_fits 23 = .ok (.iconst 3, 1) := by decide +kernel
theorem dX4_fits_24 : decode cX4_fits 24 = .ok (.invokevirtual 48, 3) := by decide +kernel
theorem dX4_fits_27 : decode cX4_fits 27 = .ok (.isub, 1) := by decide +kernel
theorem dX4_fits_28 : decode cX4_fits 28 = .ok (.istore 6, 2) := by decide +kernel
theorem dX4_fits_30 : decode cX4_fits 30 = .ok (.aload_n 0, 1) := by decide +kernel
theorem dX4_fits_31 : decode cX4_fits 31 = .ok (.iload_n 1, 1) := by decide +kernel
theorem dX4_fits_32 : decode cX4_fits 32 = .ok (.iconst 4, 1) := by decide +kernel
theorem dX4_fits_33 : decode cX4_fits 33 = .ok (.invokevirtual 48, 3) := by decide +kernel
theorem dX4_fits_36 : decode cX4_fits 36 = .ok (.ifCond .ne 44, 3) := by decide +kernel
theorem dX4_fits_39 : decode cX4_fits 39 = .ok (.aload_n 0, 1) := by decide +kernel
theorem dX4_fits_40 : decode cX4_fits 40 = .ok (.iload_n 1, 1) := by decide +kernel
theorem dX4_fits_41 : decode cX4_fits 41 = .ok (.iconst 0, 1) := by decide +kernel
theorem dX4_fits_42 : decode cX4_fits 42 = .ok (.invokevirtual 48, 3) := by decide +kernel
theorem dX4_fits_45 : decode cX4_fits 45 = .ok (.aload_n 0, 1) := by decide +kernel
theorem dX4_fits_46 : decode cX4_fits 46 = .ok (.iload_n 2, 1) := by decide +kernel
theorem dX4_fits_47 : decode cX4_fits 47 = .ok (.iconst 0, 1) := by decide +kernel
theorem dX4_fits_48 : decode cX4_fits 48 = .ok (.invokevirtual 48, 3) := by decide +kernel
theorem dX4_fits_51 : decode cX4_fits 51 = .ok (.if_icmp .eq 29, 3) := by decide +kernel
theorem dX4_fits_54 : decode cX4_fits 54 = .ok (.iload 5, 2) := by decide +kernel
theorem dX4_fits_56 : decode cX4_fits 56 = .ok (.iconst 1, 1) := by decide +kernel
theorem dX4_fits_57 : decode cX4_fits 57 = .ok (.if_icmp .lt 23, 3) := by decide +kernel
theorem dX4_fits_60 : decode cX4_fits 60 = .ok (.iload 5, 2) := by decide +kernel
theorem dX4_fits_62 : decode cX4_fits 62 = .ok (.iload_n 3, 1) := by decide +kernel
theorem dX4_fits_63 : decode cX4_fits 63 = .ok (.if_icmp .gt 17, 3) := by decide +kernel
theorem dX4_fits_66 : decode cX4_fits 66 = .ok (.iload 6, 2) := by decide +kernel
theorem dX4_fits_68 : decode cX4_fits 68 = .ok (.invokestatic 55, 3) := by decide +kernel
theorem dX4_fits_71 : decode cX4_fits 71 = .ok (.iload 4, 2) := by decide +kernel
theorem dX4_fits_73 : decode cX4_fits 73 = .ok (.if_icmp .gt 7, 3) := by decide +kernel
theorem dX4_fits_76 : decode cX4_fits 76 = .ok (.iconst 1, 1) := by decide +kernel
theorem dX4_fits_77 : decode cX4_fits 77 = .ok (.goto 4, 3) := by decide +kernel
theorem dX4_fits_80 : decode cX4_fits 80 = .ok (.iconst 0, 1) := by decide +kernel
theorem dX4_fits_81 : decode cX4_fits 81 = .ok (.ireturn, 1) := by decide +kernel
set_option maxRecDepth 20000 in
theorem ggX4_predecessorOf_X10_within : GoodIn wsX4_predecessorOf wsX10_within := goodIn_r _ [5] (by decide +kernel) (by decide +kernel)
set_option maxRecDepth 20000 in
theorem gX4_predecessorOf_X10_within_n44 : GoodIn wsX4_predecessorOf (wsX10_within) := ggX4_predecessorOf_X10_within
theorem dX4_predecessorOf_0 : decode cX4_predecessorOf 0 = .ok (.iload_n 1, 1) := by decide +kernel
theorem dX4_predecessorOf_1 : decode cX4_predecessorOf 1 = .ok (.aload_n 0, 1) := by decide +kernel
theorem dX4_predecessorOf_2 : decode cX4_predecessorOf 2 = .ok (.getfield 33, 3) := by decide +kernel
theorem dX4_predecessorOf_5 : decode cX4_predecessorOf 5 = .ok (.invokestatic 44, 3) := by decide +kernel
theorem dX4_predecessorOf_8 : decode cX4_predecessorOf 8 = .ok (.ifCond .eq 12, 3) := by decide +kernel
theorem dX4_predecessorOf_11 : decode cX4_predecessorOf 11 = .ok (.aload_n 0, 1) := by decide +kernel
theorem dX4_predecessorOf_12 : decode cX4_predecessorOf 12 = .ok (.getfield 9, 3) := by decide +kernel
theorem dX4_predecessorOf_15 : decode cX4_predecessorOf 15 = .ok (.iload_n 1, 1) := by decide +kernel
theorem dX4_predecessorOf_16 : decode cX4_predecessorOf 16 = .ok (.iaload, 1) := by decide +kernel
theorem dX4_predecessorOf_17 : decode cX4_predecessorOf 17 = .ok (.goto 4, 3) := by decide +kernel
theorem dX4_predecessorOf_20 : decode cX4_predecessorOf 20 = .ok (.iconst (-1), 1) := by decide +kernel
theorem dX4_predecessorOf_21 : decode cX4_predecessorOf 21 = .ok (.ireturn, 1) := by decide +kernel
set_option maxRecDepth 20000 in
theorem ggX4_firstOf_X10_within : GoodIn wsX4_firstOf wsX10_within := goodIn_r _ [5] (by decide +kernel) (by decide +kernel)
set_option maxRecDepth 20000 in
theorem gX4_firstOf_X10_within_n44 : GoodIn wsX4_firstOf (wsX10_within) := ggX4_firstOf_X10_within
theorem dX4_firstOf_0 : decode cX4_firstOf 0 = .ok (.iload_n 1, 1) := by decide +kernel
theorem dX4_firstOf_1 : decode cX4_firstOf 1 = .ok (.aload_n 0, 1) := by decide +kernel
theorem dX4_firstOf_2 : decode cX4_firstOf 2 = .ok (.getfield 33, 3) := by decide +kernel
theorem dX4_firstOf_5 : decode cX4_firstOf 5 = .ok (.invokestatic 44, 3) := by decide +kernel
theorem dX4_firstOf_8 : decode cX4_firstOf 8 = .ok (.ifCond .eq 12, 3) := by decide +kernel
theorem dX4_firstOf_11 : decode cX4_firstOf 11 = .ok (.aload_n 0, 1) := by decide +kernel
theorem dX4_firstOf_12 : decode cX4_firstOf 12 = .ok (.getfield 18, 3) := by decide +kernel
theorem dX4_firstOf_15 : decode cX4_firstOf 15 = .ok (.iload_n 1, 1) := by decide +kernel
theorem dX4_firstOf_16 : decode cX4_firstOf 16 = .ok (.iaload, 1) := by decide +kernel
theorem dX4_firstOf_17 : decode cX4_firstOf 17 = .ok (.goto 4, 3) := by decide +kernel
theorem dX4_firstOf_20 : decode cX4_firstOf 20 = .ok (.iconst (-1), 1) := by decide +kernel
theorem dX4_firstOf_21 : decode cX4_firstOf 21 = .ok (.ireturn, 1) := by decide +kernel
theorem dX4_lengthFrom_0 : decode cX4_lengthFrom 0 = .ok (.iconst 0, 1) := by decide +kernel
theorem dX4_lengthFrom_1 : decode cX4_lengthFrom 1 = .ok (.istore_n 2, 1) := by decide +kernel
theorem dX4_lengthFrom_2 : decode cX4_lengthFrom 2 = .ok (.iconst 0, 1) := by decide +kernel
theorem dX4_lengthFrom_3 : decode cX4_lengthFrom 3 = .ok (.istore_n 3, 1) := by decide +kernel
theorem dX4_lengthFrom_4 : decode cX4_lengthFrom 4 = .ok (.iload_n 3, 1) := by decide +kernel
theorem dX4_lengthFrom_5 : decode cX4_lengthFrom 5 = .ok (.aload_n 0, 1) := by decide +kernel
theorem dX4_lengthFrom_6 : decode cX4_lengthFrom 6 = .ok (.getfield 33, 3) := by decide +kernel
theorem dX4_lengthFrom_9 : decode cX4_lengthFrom 9 = .ok (.if_icmp .ge 27, 3) := by decide +kernel
theorem dX4_lengthFrom_12 : decode cX4_lengthFrom 12 = .ok (.iload_n 2, 1) := by decide +kernel
theorem dX4_lengthFrom_13 : decode cX4_lengthFrom 13 = .ok (.aload_n 0, 1) := by decide +kernel
theorem dX4_lengthFrom_14 : decode cX4_lengthFrom 14 = .ok (.getfield 18, 3) := by decide +kernel
theorem dX4_lengthFrom_17 : decode cX4_lengthFrom 17 = .ok (.iload_n 3, 1) := by decide +kernel
theorem dX4_lengthFrom_18 : decode cX4_lengthFrom 18 = .ok (.iaload, 1) := by decide +kernel
theorem dX4_lengthFrom_19 : decode cX4_lengthFrom 19 = .ok (.iload_n 1, 1) := by decide +kernel
theorem dX4_lengthFrom_20 : decode cX4_lengthFrom 20 = .ok (.if_icmp .ne 7, 3) := by decide +kernel
theorem dX4_lengthFrom_23 : decode cX4_lengthFrom 23 = .ok (.iconst 1, 1) := by decide +kernel
theorem dX4_lengthFrom_24 : decode cX4_lengthFrom 24 = .ok (.goto 4, 3) := by decide +kernel
theorem dX4_lengthFrom_27 : decode cX4_lengthFrom 27 = .ok (.iconst 0, 1) := by decide +kernel
theorem dX4_lengthFrom_28 : decode cX4_lengthFrom 28 = .ok (.iadd, 1) := by decide +kernel
theorem dX4_lengthFrom_29 : decode cX4_lengthFrom 29 = .ok (.istore_n 2, 1) := by decide +kernel
theorem dX4_lengthFrom_30 : decode cX4_lengthFrom 30 = .ok (.iinc 3 1, 3) := by decide +kernel
theorem dX4_lengthFrom_33 : decode cX4_lengthFrom 33 = .ok (.goto (-29), 3) := by decide +kernel
theorem dX4_lengthFrom_36 : decode cX4_lengthFrom 36 = .ok (.iload_n 2, 1) := by decide +kernel
theorem dX4_lengthFrom_37 : decode cX4_lengthFrom 37 = .ok (.ireturn, 1) := by decide +kernel
theorem dX4_lastFrom_0 : decode cX4_lastFrom 0 = .ok (.iconst (-1), 1) := by decide +kernel
theorem dX4_lastFrom_1 : decode cX4_lastFrom 1 = .ok (.istore_n 2, 1) := by decide +kernel
theorem dX4_lastFrom_2 : decode cX4_lastFrom 2 = .ok (.iconst 0, 1) := by decide +kernel
theorem dX4_lastFrom_3 : decode cX4_lastFrom 3 = .ok (.istore_n 3, 1) := by decide +kernel
theorem dX4_lastFrom_4 : decode cX4_lastFrom 4 = .ok (.iload_n 3, 1) := by decide +kernel
theorem dX4_lastFrom_5 : decode cX4_lastFrom 5 = .ok (.aload_n 0, 1) := by decide +kernel
theorem dX4_lastFrom_6 : decode cX4_lastFrom 6 = .ok (.getfield 33, 3) := by decide +kernel
theorem dX4_lastFrom_9 : decode cX4_lastFrom 9 = .ok (.if_icmp .ge 25, 3) := by decide +kernel
theorem dX4_lastFrom_12 : decode cX4_lastFrom 12 = .ok (.aload_n 0, 1) := by decide +kernel
theorem dX4_lastFrom_13 : decode cX4_lastFrom 13 = .ok (.getfield 18, 3) := by decide +kernel
theorem dX4_lastFrom_16 : decode cX4_lastFrom 16 = .ok (.iload_n 3, 1) := by decide +kernel
theorem dX4_lastFrom_17 : decode cX4_lastFrom 17 = .ok (.iaload, 1) := by decide +kernel
theorem dX4_lastFrom_18 : decode cX4_lastFrom 18 = .ok (.iload_n 1, 1) := by decide +kernel
theorem dX4_lastFrom_19 : decode cX4_lastFrom 19 = .ok (.if_icmp .ne 7, 3) := by decide +kernel
theorem dX4_lastFrom_22 : decode cX4_lastFrom 22 = .ok (.iload_n 3, 1) := by decide +kernel
theorem dX4_lastFrom_23 : decode cX4_lastFrom 23 = .ok (.goto 4, 3) := by decide +kernel
theorem dX4_lastFrom_26 : decode cX4_lastFrom 26 = .ok (.iload_n 2, 1) := by decide +kernel
theorem dX4_lastFrom_27 : decode cX4_lastFrom 27 = .ok (.istore_n 2, 1) := by decide +kernel
theorem dX4_lastFrom_28 : decode cX4_lastFrom 28 = .ok (.iinc 3 1, 3) := by decide +kernel
theorem dX4_lastFrom_31 : decode cX4_lastFrom 31 = .ok (.goto (-27), 3) := by decide +kernel
theorem dX4_lastFrom_34 : decode cX4_lastFrom 34 = .ok (.iload_n 2, 1) := by decide +kernel
theorem dX4_lastFrom_35 : decode cX4_lastFrom 35 = .ok (.ireturn, 1) := by decide +kernel
theorem dX4_number_0 : decode cX4_number 0 = .ok (.iconst 0, 1) := by decide +kernel
theorem dX4_number_1 : decode cX4_number 1 = .ok (.istore_n 1, 1) := by decide +kernel
theorem dX4_number_2 : decode cX4_number 2 = .ok (.iconst 0, 1) := by decide +kernel
theorem dX4_number_3 : decode cX4_number 3 = .ok (.istore_n 2, 1) := by decide +kernel
theorem dX4_number_4 : decode cX4_number 4 = .ok (.iload_n 2, 1) := by decide +kernel
theorem dX4_number_5 : decode cX4_number 5 = .ok (.aload_n 0, 1) := by decide +kernel
theorem dX4_number_6 : decode cX4_number 6 = .ok (.getfield 33, 3) := by decide +kernel
theorem dX4_number_9 : decode cX4_number 9 = .ok (.if_icmp .ge 27, 3) := by decide +kernel
theorem dX4_number_12 : decode cX4_number 12 = .ok (.iload_n 1, 1) := by decide +kernel
theorem dX4_number_13 : decode cX4_number 13 = .ok (.aload_n 0, 1) := by decide +kernel
theorem dX4_number_14 : decode cX4_number 14 = .ok (.getfield 18, 3) := by decide +kernel
theorem dX4_number_17 : decode cX4_number 17 = .ok (.iload_n 2, 1) := by decide +kernel
theorem dX4_number_18 : decode cX4_number 18 = .ok (.iaload, 1) := by decide +kernel
theorem dX4_number_19 : decode cX4_number 19 = .ok (.iload_n 2, 1) := by decide +kernel
theorem dX4_number_20 : decode cX4_number 20 = .ok (.if_icmp .ne 7, 3) := by decide +kernel
theorem dX4_number_23 : decode cX4_number 23 = .ok (.iconst 1, 1) := by decide +kernel
theorem dX4_number_24 : decode cX4_number 24 = .ok (.goto 4, 3) := by decide +kernel
theorem dX4_number_27 : decode cX4_number 27 = .ok (.iconst 0, 1) := by decide +kernel
theorem dX4_number_28 : decode cX4_number 28 = .ok (.iadd, 1) := by decide +kernel
theorem dX4_number_29 : decode cX4_number 29 = .ok (.istore_n 1, 1) := by decide +kernel
theorem dX4_number_30 : decode cX4_number 30 = .ok (.iinc 2 1, 3) := by decide +kernel
theorem dX4_number_33 : decode cX4_number 33 = .ok (.goto (-29), 3) := by decide +kernel
theorem dX4_number_36 : decode cX4_number 36 = .ok (.iload_n 1, 1) := by decide +kernel
theorem dX4_number_37 : decode cX4_number 37 = .ok (.ireturn, 1) := by decide +kernel
set_option maxRecDepth 20000 in
theorem ggX5_init_X9_init : GoodIn wsX5_init wsX9_init := goodIn_r _ [10, 11, 2, 3, 12, 13, 14, 15, 16, 17, 18, 19, 20, 21, 22] (by decide +kernel) (by decide +kernel)
set_option maxRecDepth 20000 in
theorem gX5_init_X9_init : GoodIn wsX5_init (wsX9_init) := ggX5_init_X9_init
theorem dX5_init_0 : decode cX5_init 0 = .ok (.aload_n 0, 1) := by decide +kernel
theorem dX5_init_1 : decode cX5_init 1 = .ok (.invokespecial 3, 3) := by decide +kernel
theorem dX5_init_4 : decode cX5_init 4 = .ok (.aload_n 0, 1) := by decide +kernel
theorem dX5_init_5 : decode cX5_init 5 = .ok (.new 9, 3) := by decide +kernel
theorem dX5_init_8 : decode cX5_init 8 = .ok (.dup, 1) := by decide +kernel
theorem dX5_init_9 : decode cX5_init 9 = .ok (.bipush 12, 2) := by decide +kernel
theorem dX5_init_11 : decode cX5_init 11 = .ok (.iconst 3, 1) := by decide +kernel
theorem dX5_init_12 : decode cX5_init 12 = .ok (.invokespecial 11, 3) := by decide +kernel
theorem dX5_init_15 : decode cX5_init 15 = .ok (.putfield 14, 3) := by decide +kernel
theorem dX5_init_18 : decode cX5_init 18 = .ok (.return_, 1) := by decide +kernel
theorem dX5_clear_0 : decode cX5_clear 0 = .ok (.aload_n 0, 1) := by decide +kernel
theorem dX5_clear_1 : decode cX5_clear 1 = .ok (.iconst 0, 1) := by decide +kernel
theorem dX5_clear_2 : decode cX5_clear 2 = .ok (.putfield 20, 3) := by decide +kernel
theorem dX5_clear_5 : decode cX5_clear 5 = .ok (.aload_n 0, 1) := by decide +kernel
theorem dX5_clear_6 : decode cX5_clear 6 = .ok (.iconst 0, 1) := by decide +kernel
theorem dX5_clear_7 : decode cX5_clear 7 = .ok (.putfield 24, 3) := by decide +kernel
theorem dX5_clear_10 : decode cX5_clear 10 = .ok (.aload_n 0, 1) := by decide +kernel
theorem dX5_clear_11 : decode cX5_clear 11 = .ok (.iconst 0, 1) := by decide +kernel
theorem dX5_clear_12 : decode cX5_clear 12 = .ok (.putfield 27, 3) := by decide +kernel
theorem dX5_clear_15 : decode cX5_clear 15 = .ok (.return_, 1) := by decide +kernel
set_option maxRecDepth 20000 in
theorem ggX5_add_X9_set : GoodIn wsX5_add wsX9_set := goodIn_r _ [7, 8, 9, 10, 15, 16, 17] (by decide +kernel) (by decide +kernel)
