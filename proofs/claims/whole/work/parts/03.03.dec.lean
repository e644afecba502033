theorem dX10_digest_107 : decode cX10_digest 107 = .ok (.getfield 79, 3) := by decide +kernel
theorem dX10_digest_110 : decode cX10_digest 110 = .ok (.invokevirtual 231, 3) := by decide +kernel
theorem dX10_digest_113 : decode cX10_digest 113 = .ok (.lstore_n 1, 1) := by decide +kernel
theorem dX10_digest_114 : decode cX10_digest 114 = .ok (.lload_n 1, 1) := by decide +kernel
theorem dX10_digest_115 : decode cX10_digest 115 = .ok (.aload_n 0, 1) := by decide +kernel
theorem dX10_digest_116 : decode cX10_digest 116 = .ok (.getfield 32, 3) := by decide +kernel
theorem dX10_digest_119 : decode cX10_digest 119 = .ok (.getfield 130, 3) := by decide +kernel
theorem dX10_digest_122 : decode cX10_digest 122 = .ok (.getfield 143, 3) := by decide +kernel
theorem dX10_digest_125 : decode cX10_digest 125 = .ok (.invokestatic 226, 3) := by decide +kernel
theorem dX10_digest_128 : decode cX10_digest 128 = .ok (.lstore_n 1, 1) := by decide +kernel
theorem dX10_digest_129 : decode cX10_digest 129 = .ok (.aload_n 0, 1) := by decide +kernel
theorem dX10_digest_130 : decode cX10_digest 130 = .ok (.getfield 32, 3) := by decide +kernel
theorem dX10_digest_133 : decode cX10_digest 133 = .ok (.getfield 130, 3) := by decide +kernel
theorem dX10_digest_136 : decode cX10_digest 136 = .ok (.getfield 144, 3) := by decide +kernel
theorem dX10_digest_139 : decode cX10_digest 139 = .ok (.lload_n 1, 1) := by decide +kernel
theorem dX10_digest_140 : decode cX10_digest 140 = .ok (.aload_n 0, 1) := by decide +kernel
theorem dX10_digest_141 : decode cX10_digest 141 = .ok (.getfield 32, 3) := by decide +kernel
theorem dX10_digest_144 : decode cX10_digest 144 = .ok (.getfield 130, 3) := by decide +kernel
theorem dX10_digest_147 : decode cX10_digest 147 = .ok (.getfield 143, 3) := by decide +kernel
theorem dX10_digest_150 : decode cX10_digest 150 = .ok (.invokevirtual 231, 3) := by decide +kernel
theorem dX10_digest_153 : decode cX10_digest 153 = .ok (.lstore_n 1, 1) := by decide +kernel
theorem dX10_digest_154 : decode cX10_digest 154 = .ok (.lload_n 1, 1) := by decide +kernel
theorem dX10_digest_155 : decode cX10_digest 155 = .ok (.aload_n 0, 1) := by decide +kernel
theorem dX10_digest_156 : decode cX10_digest 156 = .ok (.getfield 32, 3) := by decide +kernel
theorem dX10_digest_159 : decode cX10_digest 159 = .ok (.getfield 130, 3) := by decide +kernel
theorem dX10_digest_162 : decode cX10_digest 162 = .ok (.invokevirtual 176, 3) := by decide +kernel
theorem dX10_digest_165 : decode cX10_digest 165 = .ok (.invokestatic 226, 3) := by decide +kernel
theorem dX10_digest_168 : decode cX10_digest 168 = .ok (.lstore_n 1, 1) := by decide +kernel
theorem dX10_digest_169 : decode cX10_digest 169 = .ok (.aload_n 0, 1) := by decide +kernel
theorem dX10_digest_170 : decode cX10_digest 170 = .ok (.getfield 32, 3) := by decide +kernel
theorem dX10_digest_173 : decode cX10_digest 173 = .ok (.getfield 96, 3) := by decide +kernel
theorem dX10_digest_176 : decode cX10_digest 176 = .ok (.lload_n 1, 1) := by decide +kernel
theorem dX10_digest_177 : decode cX10_digest 177 = .ok (.invokevirtual 234, 3) := by decide +kernel
theorem dX10_digest_180 : decode cX10_digest 180 = .ok (.lstore_n 1, 1) := by decide +kernel
theorem dX10_digest_181 : decode cX10_digest 181 = .ok (.aload_n 0, 1) := by decide +kernel
theorem dX10_digest_182 : decode cX10_digest 182 = .ok (.invokevirtual 197, 3) := by decide +kernel
theorem dX10_digest_185 : decode cX10_digest 185 = .ok (.aload_n 0, 1) := by decide +kernel
theorem dX10_digest_186 : decode cX10_digest 186 = .ok (.lload_n 1, 1) := by decide +kernel
theorem dX10_digest_187 : decode cX10_digest 187 = .ok (.invokevirtual 238, 3) := by decide +kernel
theorem dX10_digest_190 : decode cX10_digest 190 = .ok (.lstore_n 1, 1) := by decide +kernel
theorem dX10_digest_191 : decode cX10_digest 191 = .ok (.lload_n 1, 1) := by decide +kernel
theorem dX10_digest_192 : decode cX10_digest 192 = .ok (.aload_n 0, 1) := by decide +kernel
theorem dX10_digest_193 : decode cX10_digest 193 = .ok (.getfield 39, 3) := by decide +kernel
theorem dX10_digest_196 : decode cX10_digest 196 = .ok (.getfield 218, 3) := by decide +kernel
theorem dX10_digest_199 : decode cX10_digest 199 = .ok (.invokestatic 226, 3) := by decide +kernel
theorem dX10_digest_202 : decode cX10_digest 202 = .ok (.lreturn, 1) := by decide +kernel
theorem dX10_requireArgument_0 : decode cX10_requireArgument 0 = .ok (.iload_n 0, 1) := by decide +kernel
theorem dX10_requireArgument_1 : decode cX10_requireArgument 1 = .ok (.iload_n 1, 1) := by decide +kernel
theorem dX10_requireArgument_2 : decode cX10_requireArgument 2 = .ok (.if_icmp .lt 8, 3) := by decide +kernel
theorem dX10_requireArgument_5 : decode cX10_requireArgument 5 = .ok (.iload_n 0, 1) := by decide +kernel
theorem dX10_requireArgument_6 : decode cX10_requireArgument 6 = .ok (.iload_n 2, 1) := by decide +kernel
theorem dX10_requireArgument_7 : decode cX10_requireArgument 7 = .ok (.if_icmp .le 13, 3) := by decide +kernel
theorem dX10_requireArgument_10 : decode cX10_requireArgument 10 = .ok (.new 154, 3) := by decide +kernel
theorem dX10_requireArgument_13 : decode cX10_requireArgument 13 = .ok (.dup, 1) := by decide +kernel
theorem dX10_requireArgument_14 : decode cX10_requireArgument 14 = .ok (.ldc 241, 2) := by decide +kernel
theorem dX10_requireArgument_16 : decode cX10_requireArgument 16 = .ok (.invokespecial 158, 3) := by decide +kernel
theorem dX10_requireArgument_19 : decode cX10_requireArgument 19 = .ok (.athrow, 1) := by decide +kernel
theorem dX10_requireArgument_20 : decode cX10_requireArgument 20 = .ok (.return_, 1) := by decide +kernel
set_option maxRecDepth 20000 in
theorem ggX10_requireIndex_X10_within : GoodIn wsX10_requireIndex wsX10_within := goodIn_r _ [6] (by decide +kernel) (by decide +kernel)
set_option maxRecDepth 20000 in
theorem gX10_requireIndex_X10_within : GoodIn wsX10_requireIndex (va_wsS RX10 243 yX10_within wsX10_within) := goodIn_app (goodIn_of _ (by decide +kernel)) ggX10_requireIndex_X10_within
theorem dX10_requireIndex_0 : decode cX10_requireIndex 0 = .ok (.iload_n 0, 1) := by decide +kernel
theorem dX10_requireIndex_1 : decode cX10_requireIndex 1 = .ok (.iload_n 1, 1) := by decide +kernel
theorem dX10_requireIndex_2 : decode cX10_requireIndex 2 = .ok (.invokestatic 243, 3) := by decide +kernel
theorem dX10_requireIndex_5 : decode cX10_requireIndex 5 = .ok (.ifCond .ne 13, 3) := by decide +kernel
theorem dX10_requireIndex_8 : decode cX10_requireIndex 8 = .ok (.new 247, 3) := by decide +kernel
theorem dX10_requireIndex_11 : decode cX10_requireIndex 11 = .ok (.dup, 1) := by decide +kernel
theorem dX10_requireIndex_12 : decode cX10_requireIndex 12 = .ok (.ldc 249, 2) := by decide +kernel
theorem dX10_requireIndex_14 : decode cX10_requireIndex 14 = .ok (.invokespecial 251, 3) := by decide +kernel
theorem dX10_requireIndex_17 : decode cX10_requireIndex 17 = .ok (.athrow, 1) := by decide +kernel
theorem dX10_requireIndex_18 : decode cX10_requireIndex 18 = .ok (.return_, 1) := by decide +kernel
theorem dX10_requireRoomForSignal_0 : decode cX10_requireRoomForSignal 0 = .ok (.aload_n 0, 1) := by decide +kernel
theorem dX10_requireRoomForSignal_1 : decode cX10_requireRoomForSignal 1 = .ok (.getfield 32, 3) := by decide +kernel
theorem dX10_requireRoomForSignal_4 : decode cX10_requireRoomForSignal 4 = .ok (.getfield 66, 3) := by decide +kernel
theorem dX10_requireRoomForSignal_7 : decode cX10_requireRoomForSignal 7 = .ok (.getfield 79, 3) := by decide +kernel
theorem dX10_requireRoomForSignal_10 : decode cX10_requireRoomForSignal 10 = .ok (.bipush 10, 2) := by decide +kernel
theorem dX10_requireRoomForSignal_12 : decode cX10_requireRoomForSignal 12 = .ok (.if_icmp .lt 13, 3) := by decide +kernel
theorem dX10_requireRoomForSignal_15 : decode cX10_requireRoomForSignal 15 = .ok (.new 117, 3) := by decide +kernel
theorem dX10_requireRoomForSignal_18 : decode cX10_requireRoomForSignal 18 = .ok (.dup, 1) := by decide +kernel
theorem dX10_requireRoomForSignal_19 : decode cX10_requireRoomForSignal 19 = .ok (.ldc 252, 2) := by decide +kernel
theorem dX10_requireRoomForSignal_21 : decode cX10_requireRoomForSignal 21 = .ok (.invokespecial 121, 3) := by decide +kernel
theorem dX10_requireRoomForSignal_24 : decode cX10_requireRoomForSignal 24 = .ok (.athrow, 1) := by decide +kernel
theorem dX10_requireRoomForSignal_25 : decode cX10_requireRoomForSignal 25 = .ok (.return_, 1) := by decide +kernel
theorem dX10_within_0 : decode cX10_within 0 = .ok (.iload_n 0, 1) := by decide +kernel
theorem dX10_within_1 : decode cX10_within 1 = .ok (.ifCond .lt 12, 3) := by decide +kernel
theorem dX10_within_4 : decode cX10_within 4 = .ok (.iload_n 0, 1) := by decide +kernel
theorem dX10_within_5 : decode cX10_within 5 = .ok (.iload_n 1, 1) := by decide +kernel
theorem dX10_within_6 : decode cX10_within 6 = .ok (.if_icmp .ge 7, 3) := by decide +kernel
theorem dX10_within_9 : decode cX10_within 9 = .ok (.iconst 1, 1) := by decide +kernel
theorem dX10_within_10 : decode cX10_within 10 = .ok (.goto 4, 3) := by decide +kernel
theorem dX10_within_13 : decode cX10_within 13 = .ok (.iconst 0, 1) := by decide +kernel
theorem dX10_within_14 : decode cX10_within 14 = .ok (.ireturn, 1) := by decide +kernel
theorem dX10_mix_0 : decode cX10_mix 0 = .ok (.ldc2_w 254, 3) := by decide +kernel
theorem dX10_mix_3 : decode cX10_mix 3 = .ok (.lload_n 0, 1) := by decide +kernel
theorem dX10_mix_4 : decode cX10_mix 4 = .ok (.lmul, 1) := by decide +kernel
theorem dX10_mix_5 : decode cX10_mix 5 = .ok (.iload_n 2, 1) := by decide +kernel
theorem dX10_mix_6 : decode cX10_mix 6 = .ok (.i2l, 1) := by decide +kernel
theorem dX10_mix_7 : decode cX10_mix 7 = .ok (.ladd, 1) := by decide +kernel
theorem dX10_mix_8 : decode cX10_mix 8 = .ok (.lreturn, 1) := by decide +kernel
set_option maxRecDepth 20000 in
theorem ggX10_findChains_X4_find : GoodIn wsX10_findChains wsX4_find := goodIn_r _ [7, 8, 9, 10, 11, 12, 13, 14, 15, 16, 17, 18, 19, 20, 21, 22, 6, 23, 24, 25, 26, 27, 28, 29, 30, 31, 32, 33, 34, 35, 36, 37, 38, 39, 40, 41, 42, 43, 44, 45, 46, 47, 64, 65, 66, 67, 68, 69, 70, 71, 72, 73, 74] (by decide +kernel) (by decide +kernel)
set_option maxRecDepth 20000 in
theorem gX10_findChains_X4_find : GoodIn wsX10_findChains (wsV RX10 256 RX4 yX4_find wsX4_find) := goodIn_app (goodIn_of _ (by decide +kernel)) ggX10_findChains_X4_find
theorem dX10_findChains_0 : decode cX10_findChains 0 = .ok (.aload_n 0, 1) := by decide +kernel
theorem dX10_findChains_1 : decode cX10_findChains 1 = .ok (.getfield 46, 3) := by decide +kernel
theorem dX10_findChains_4 : decode cX10_findChains 4 = .ok (.aload_n 0, 1) := by decide +kernel
theorem dX10_findChains_5 : decode cX10_findChains 5 = .ok (.getfield 32, 3) := by decide +kernel
theorem dX10_findChains_8 : decode cX10_findChains 8 = .ok (.getfield 186, 3) := by decide +kernel
theorem dX10_findChains_11 : decode cX10_findChains 11 = .ok (.aload_n 0, 1) := by decide +kernel
theorem dX10_findChains_12 : decode cX10_findChains 12 = .ok (.getfield 32, 3) := by decide +kernel
theorem dX10_findChains_15 : decode cX10_findChains 15 = .ok (.getfield 108, 3) := by decide +kernel
theorem dX10_findChains_18 : decode cX10_findChains 18 = .ok (.aload_n 0, 1) := by decide +kernel
theorem dX10_findChains_19 : decode cX10_findChains 19 = .ok (.getfield 32, 3) := by decide +kernel
theorem dX10_findChains_22 : decode cX10_findChains 22 = .ok (.getfield 111, 3) := by decide +kernel
theorem dX10_findChains_25 : decode cX10_findChains 25 = .ok (.invokevirtual 256, 3) := by decide +kernel
theorem dX10_findChains_28 : decode cX10_findChains 28 = .ok (.return_, 1) := by decide +kernel
set_option maxRecDepth 20000 in
theorem ggX10_describeEvent_X4_predecessorOf : GoodIn wsX10_describeEvent wsX4_predecessorOf := goodIn_r _ [7, 8, 9, 10, 11, 12, 49, 50, 51, 52] (by decide +kernel) (by decide +kernel)
set_option maxRecDepth 20000 in
theorem gX10_describeEvent_X4_predecessorOf : GoodIn wsX10_describeEvent (wsV RX10 260 RX4 yX4_predecessorOf wsX4_predecessorOf) := goodIn_app (goodIn_of _ (by decide +kernel)) ggX10_describeEvent_X4_predecessorOf
set_option maxRecDepth 20000 in
theorem ggX10_describeEvent_X4_firstOf : GoodIn wsX10_describeEvent wsX4_firstOf := goodIn_r _ [16, 8, 17, 10, 11, 12, 49, 50, 51, 52] (by decide +kernel) (by decide +kernel)
set_option maxRecDepth 20000 in
theorem gX10_describeEvent_X4_firstOf : GoodIn wsX10_describeEvent (wsV RX10 203 RX4 yX4_firstOf wsX4_firstOf) := goodIn_app (goodIn_of _ (by decide +kernel)) ggX10_describeEvent_X4_firstOf
set_option maxRecDepth 20000 in
theorem ggX10_describeEvent_X2_read : GoodIn wsX10_describeEvent wsX2_read := goodIn_r _ [22, 23, 24, 10, 11, 12, 25, 26, 27, 28, 29, 30, 31, 32, 53, 54, 55, 56, 57, 58, 59] (by decide +kernel) (by decide +kernel)
set_option maxRecDepth 20000 in
theorem gX10_describeEvent_X2_read : GoodIn wsX10_describeEvent (wsV RX10 215 RX2 yX2_read wsX2_read) := goodIn_app (goodIn_of _ (by decide +kernel)) ggX10_describeEvent_X2_read
theorem dX10_describeEvent_0 : decode cX10_describeEvent 0 = .ok (.iload_n 2, 1) := by decide +kernel
theorem dX10_describeEvent_1 : decode cX10_describeEvent 1 = .ok (.iconst 5, 1) := by decide +kernel
theorem dX10_describeEvent_2 : decode cX10_describeEvent 2 = .ok (.if_icmp .ne 12, 3) := by decide +kernel
theorem dX10_describeEvent_5 : decode cX10_describeEvent 5 = .ok (.aload_n 0, 1) := by decide +kernel
theorem dX10_describeEvent_6 : decode cX10_describeEvent 6 = .ok (.getfield 46, 3) := by decide +kernel
theorem dX10_describeEvent_9 : decode cX10_describeEvent 9 = .ok (.iload_n 1, 1) := by decide +kernel
theorem dX10_describeEvent_10 : decode cX10_describeEvent 10 = .ok (.invokevirtual 260, 3) := by decide +kernel
theorem dX10_describeEvent_13 : decode cX10_describeEvent 13 = .ok (.ireturn, 1) := by decide +kernel
theorem dX10_describeEvent_14 : decode cX10_describeEvent 14 = .ok (.iload_n 2, 1) := by decide +kernel
theorem dX10_describeEvent_15 : decode cX10_describeEvent 15 = .ok (.bipush 6, 2) := by decide +kernel
theorem dX10_describeEvent_17 : decode cX10_describeEvent 17 = .ok (.if_icmp .ne 12, 3) := by decide +kernel
theorem dX10_describeEvent_20 : decode cX10_describeEvent 20 = .ok (.aload_n 0, 1) := by decide +kernel
theorem dX10_describeEvent_21 : decode cX10_describeEvent 21 = .ok (.getfield 46, 3) := by decide +kernel
theorem dX10_describeEvent_24 : decode cX10_describeEvent 24 = .ok (.iload_n 1, 1) := by decide +kernel
theorem dX10_describeEvent_25 : decode cX10_describeEvent 25 = .ok (.invokevirtual 203, 3) := by decide +kernel
theorem dX10_describeEvent_28 : decode cX10_describeEvent 28 = .ok (.ireturn, 1) := by decide +kernel
theorem dX10_describeEvent_29 : decode cX10_describeEvent 29 = .ok (.aload_n 0, 1) := by decide +kernel
theorem dX10_describeEvent_30 : decode cX10_describeEvent 30 = .ok (.getfield 32, 3) := by decide +kernel
theorem dX10_describeEvent_33 : decode cX10_describeEvent 33 = .ok (.getfield 186, 3) := by decide +kernel
theorem dX10_describeEvent_36 : decode cX10_describeEvent 36 = .ok (.iload_n 1, 1) := by decide +kernel
theorem dX10_describeEvent_37 : decode cX10_describeEvent 37 = .ok (.iload_n 2, 1) := by decide +kernel
theorem dX10_describeEvent_38 : decode cX10_describeEvent 38 = .ok (.invokevirtual 215, 3) := by decide +kernel
theorem dX10_describeEvent_41 : decode cX10_describeEvent 41 = .ok (.ireturn, 1) := by decide +kernel
set_option maxRecDepth 20000 in
theorem ggX10_mixEvents_X10_mix : GoodIn wsX10_mixEvents wsX10_mix := goodIn_r _ [5, 6] (by decide +kernel) (by decide +kernel)
set_option maxRecDepth 20000 in
theorem gX10_mixEvents_X10_mix : GoodIn wsX10_mixEvents (va_wsS RX10 226 yX10_mix wsX10_mix) := goodIn_app (goodIn_of _ (by decide +kernel)) ggX10_mixEvents_X10_mix
set_option maxRecDepth 20000 in
theorem ggX10_mixEvents_X10_describeEvent : GoodIn wsX10_mixEvents wsX10_describeEvent := goodIn_r _ [10, 11, 1, 12, 13, 14, 15, 16, 17, 18, 19, 4, 20, 21, 22, 23, 24, 25, 26, 27, 28, 29, 30, 31, 32, 33, 34, 35, 36, 37, 38, 39, 40, 41, 42, 43, 44, 45, 46, 47, 48, 49, 50, 51, 52, 53, 54, 55, 56, 61, 62, 63, 64, 57, 58, 59, 60, 65, 66, 67] (by decide +kernel) (by decide +kernel)
set_option maxRecDepth 20000 in
theorem gX10_mixEvents_X10_describeEvent : GoodIn wsX10_mixEvents (wsV RX10 200 RX10 yX10_describeEvent wsX10_describeEvent) := goodIn_app (goodIn_of _ (by decide +kernel)) ggX10_mixEvents_X10_describeEvent
theorem dX10_mixEvents_0 : decode cX10_mixEvents 0 = .ok (.lload_n 1, 1) := by decide +kernel
theorem dX10_mixEvents_1 : decode cX10_mixEvents 1 = .ok (.aload_n 0, 1) := by decide +kernel
theorem dX10_mixEvents_2 : decode cX10_mixEvents 2 = .ok (.getfield 32, 3) := by decide +kernel
theorem dX10_mixEvents_5 : decode cX10_mixEvents 5 = .ok (.getfield 186, 3) := by decide +kernel
theorem dX10_mixEvents_8 : decode cX10_mixEvents 8 = .ok (.getfield 190, 3) := by decide +kernel
theorem dX10_mixEvents_11 : decode cX10_mixEvents 11 = .ok (.invokestatic 226, 3) := by decide +kernel
theorem dX10_mixEvents_14 : decode cX10_mixEvents 14 = .ok (.lstore_n 3, 1) := by decide +kernel
theorem dX10_mixEvents_15 : decode cX10_mixEvents 15 = .ok (.iconst 0, 1) := by decide +kernel
theorem dX10_mixEvents_16 : decode cX10_mixEvents 16 = .ok (.istore 5, 2) := by decide +kernel
theorem dX10_mixEvents_18 : decode cX10_mixEvents 18 = .ok (.iload 5, 2) := by decide +kernel
theorem dX10_mixEvents_20 : decode cX10_mixEvents 20 = .ok (.aload_n 0, 1) := by decide +kernel
theorem dX10_mixEvents_21 : decode cX10_mixEvents 21 = .ok (.getfield 32, 3) := by decide +kernel
theorem dX10_mixEvents_24 : decode cX10_mixEvents 24 = .ok (.getfield 186, 3) := by decide +kernel
theorem dX10_mixEvents_27 : decode cX10_mixEvents 27 = .ok (.getfield 190, 3) := by decide +kernel
theorem dX10_mixEvents_30 : decode cX10_mixEvents 30 = .ok (.if_icmp .ge 38, 3) := by decide +kernel
theorem dX10_mixEvents_33 : decode cX10_mixEvents 33 = .ok (.iconst 0, 1) := by decide +kernel
theorem dX10_mixEvents_34 : decode cX10_mixEvents 34 = .ok (.istore 6, 2) := by decide +kernel
theorem dX10_mixEvents_36 : decode cX10_mixEvents 36 = .ok (.iload 6, 2) := by decide +kernel
theorem dX10_mixEvents_38 : decode cX10_mixEvents 38 = .ok (.bipush 6, 2) := by decide +kernel
theorem dX10_mixEvents_40 : decode cX10_mixEvents 40 = .ok (.if_icmp .gt 22, 3) := by decide +kernel
theorem dX10_mixEvents_43 : decode cX10_mixEvents 43 = .ok (.lload_n 3, 1) := by decide +kernel
theorem dX10_mixEvents_44 : decode cX10_mixEvents 44 = .ok (.aload_n 0, 1) := by decide +kernel
theorem dX10_mixEvents_45 : decode cX10_mixEvents 45 = .ok (.iload 5, 2) := by decide +kernel
theorem dX10_mixEvents_47 : decode cX10_mixEvents 47 = .ok (.iload 6, 2) := by decide +kernel
theorem dX10_mixEvents_49 : decode cX10_mixEvents 49 = .ok (.invokevirtual 200, 3) := by decide +kernel
theorem dX10_mixEvents_52 : decode cX10_mixEvents 52 = .ok (.invokestatic 226, 3) := by decide +kernel
theorem dX10_mixEvents_55 : decode cX10_mixEvents 55 = .ok (.lstore_n 3, 1) := by decide +kernel
theorem dX10_mixEvents_56 : decode cX10_mixEvents 56 = .ok (.iinc 6 1, 3) := by decide +kernel
theorem dX10_mixEvents_59 : decode cX10_mixEvents 59 = .ok (.goto (-23), 3) := by decide +kernel
theorem dX10_mixEvents_62 : decode cX10_mixEvents 62 = .ok (.iinc 5 1, 3) := by decide +kernel
theorem dX10_mixEvents_65 : decode cX10_mixEvents 65 = .ok (.goto (-47), 3) := by decide +kernel
theorem dX10_mixEvents_68 : decode cX10_mixEvents 68 = .ok (.lload_n 3, 1) := by decide +kernel
theorem dX10_mixEvents_69 : decode cX10_mixEvents 69 = .ok (.lreturn, 1) := by decide +kernel
set_option maxRecDepth 20000 in
theorem ggX11_init_X11_clears : GoodIn wsX11_init wsX11_clears := goodIn_r _ [14, 5, 15, 16, 17, 18, 19, 20, 21, 22, 23, 24, 25, 26, 27, 28] (by decide +kernel) (by decide +kernel)
set_option maxRecDepth 20000 in
theorem gX11_init_X11_clears : GoodIn wsX11_init (wsV RX11 25 RX11 yX11_clears wsX11_clears) := goodIn_app (goodIn_of _ (by decide +kernel)) ggX11_init_X11_clears
theorem dX11_init_0 : decode cX11_init 0 = .ok (.aload_n 0, 1) := by decide +kernel
theorem dX11_init_1 : decode cX11_init 1 = .ok (.invokespecial 1, 3) := by decide +kernel
theorem dX11_init_4 : decode cX11_init 4 = .ok (.aload_n 0, 1) := by decide +kernel
theorem dX11_init_5 : decode cX11_init 5 = .ok (.sipush 804, 3) := by decide +kernel
theorem dX11_init_8 : decode cX11_init 8 = .ok (.newarray .int, 2) := by decide +kernel
theorem dX11_init_10 : decode cX11_init 10 = .ok (.putfield 7, 3) := by decide +kernel
theorem dX11_init_13 : decode cX11_init 13 = .ok (.aload_n 0, 1) := by decide +kernel
theorem dX11_init_14 : decode cX11_init 14 = .ok (.sipush 3216, 3) := by decide +kernel
theorem dX11_init_17 : decode cX11_init 17 = .ok (.newarray .int, 2) := by decide +kernel
theorem dX11_init_19 : decode cX11_init 19 = .ok (.putfield 13, 3) := by decide +kernel
theorem dX11_init_22 : decode cX11_init 22 = .ok (.aload_n 0, 1) := by decide +kernel
theorem dX11_init_23 : decode cX11_init 23 = .ok (.bipush 100, 2) := by decide +kernel
theorem dX11_init_25 : decode cX11_init 25 = .ok (.newarray .int, 2) := by decide +kernel
theorem dX11_init_27 : decode cX11_init 27 = .ok (.putfield 16, 3) := by decide +kernel
theorem dX11_init_30 : decode cX11_init 30 = .ok (.aload_n 0, 1) := by decide +kernel
theorem dX11_init_31 : decode cX11_init 31 = .ok (.bipush 36, 2) := by decide +kernel
theorem dX11_init_33 : decode cX11_init 33 = .ok (.newarray .int, 2) := by decide +kernel
theorem dX11_init_35 : decode cX11_init 35 = .ok (.putfield 19, 3) := by decide +kernel
theorem dX11_init_38 : decode cX11_init 38 = .ok (.aload_n 0, 1) := by decide +kernel
theorem dX11_init_39 : decode cX11_init 39 = .ok (.bipush 50, 2) := by decide +kernel
theorem dX11_init_41 : decode cX11_init 41 = .ok (.newarray .int, 2) := by decide +kernel
theorem dX11_init_43 : decode cX11_init 43 = .ok (.putfield 22, 3) := by decide +kernel
theorem dX11_init_46 : decode cX11_init 46 = .ok (.aload_n 0, 1) := by decide +kernel
theorem dX11_init_47 : decode cX11_init 47 = .ok (.getfield 7, 3) := by decide +kernel
theorem dX11_init_50 : decode cX11_init 50 = .ok (.iconst 1, 1) := by decide +kernel
theorem dX11_init_51 : decode cX11_init 51 = .ok (.bipush 10, 2) := by decide +kernel
theorem dX11_init_53 : decode cX11_init 53 = .ok (.iastore, 1) := by decide +kernel
theorem dX11_init_54 : decode cX11_init 54 = .ok (.aload_n 0, 1) := by decide +kernel
theorem dX11_init_55 : decode cX11_init 55 = .ok (.getfield 7, 3) := by decide +kernel
theorem dX11_init_58 : decode cX11_init 58 = .ok (.iconst 2, 1) := by decide +kernel
theorem dX11_init_59 : decode cX11_init 59 = .ok (.bipush 30, 2) := by decide +kernel
theorem dX11_init_61 : decode cX11_init 61 = .ok (.iastore, 1) := by decide +kernel
theorem dX11_init_62 : decode cX11_init 62 = .ok (.aload_n 0, 1) := by decide +kernel
theorem dX11_init_63 : decode cX11_init 63 = .ok (.getfield 7, 3) := by decide +kernel
theorem dX11_init_66 : decode cX11_init 66 = .ok (.iconst 3, 1) := by decide +kernel
theorem dX11_init_67 : decode cX11_init 67 = .ok (.bipush 10, 2) := by decide +kernel
theorem dX11_init_69 : decode cX11_init 69 = .ok (.iastore, 1) := by decide +kernel
theorem dX11_init_70 : decode cX11_init 70 = .ok (.aload_n 0, 1) := by decide +kernel
theorem dX11_init_71 : decode cX11_init 71 = .ok (.getfield 7, 3) := by decide +kernel
theorem dX11_init_74 : decode cX11_init 74 = .ok (.iconst 4, 1) := by decide +kernel
theorem dX11_init_75 : decode cX11_init 75 = .ok (.iconst 5, 1) := by decide +kernel
theorem dX11_init_76 : decode cX11_init 76 = .ok (.iastore, 1) := by decide +kernel
theorem dX11_init_77 : decode cX11_init 77 = .ok (.iconst 0, 1) := by decide +kernel
theorem dX11_init_78 : decode cX11_init 78 = .ok (.istore_n 1, 1) := by decide +kernel
theorem dX11_init_79 : decode cX11_init 79 = .ok (.iload_n 1, 1) := by decide +kernel
theorem dX11_init_80 : decode cX11_init 80 = .ok (.bipush 32, 2) := by decide +kernel
theorem dX11_init_82 : decode cX11_init 82 = .ok (.if_icmp .ge 20, 3) := by decide +kernel
theorem dX11_init_85 : decode cX11_init 85 = .ok (.aload_n 0, 1) := by decide +kernel
theorem dX11_init_86 : decode cX11_init 86 = .ok (.getfield 7, 3) := by decide +kernel
theorem dX11_init_89 : decode cX11_init 89 = .ok (.bipush 106, 2) := by decide +kernel
theorem dX11_init_91 : decode cX11_init 91 = .ok (.iload_n 1, 1) := by decide +kernel
theorem dX11_init_92 : decode cX11_init 92 = .ok (.iadd, 1) := by decide +kernel
theorem dX11_init_93 : decode cX11_init 93 = .ok (.bipush 100, 2) := by decide +kernel
theorem dX11_init_95 : decode cX11_init 95 = .ok (.iastore, 1) := by decide +kernel
theorem dX11_init_96 : decode cX11_init 96 = .ok (.iinc 1 1, 3) := by decide +kernel
theorem dX11_init_99 : decode cX11_init 99 = .ok (.goto (-20), 3) := by decide +kernel
theorem dX11_init_102 : decode cX11_init 102 = .ok (.aload_n 0, 1) := by decide +kernel
theorem dX11_init_103 : decode cX11_init 103 = .ok (.invokevirtual 25, 3) := by decide +kernel
theorem dX11_init_106 : decode cX11_init 106 = .ok (.return_, 1) := by decide +kernel
theorem dX11_thrown_0 : decode cX11_thrown 0 = .ok (.aload_n 0, 1) := by decide +kernel
theorem dX11_thrown_1 : decode cX11_thrown 1 = .ok (.getfield 28, 3) := by decide +kernel
theorem dX11_thrown_4 : decode cX11_thrown 4 = .ok (.ireturn, 1) := by decide +kernel
theorem dX11_in_0 : decode cX11_in 0 = .ok (.lload_n 0, 1) := by decide +kernel
theorem dX11_in_1 : decode cX11_in 1 = .ok (.lload_n 2, 1) := by decide +kernel
theorem dX11_in_2 : decode cX11_in 2 = .ok (.lcmp, 1) := by decide +kernel
theorem dX11_in_3 : decode cX11_in 3 = .ok (.ifCond .lt 14, 3) := by decide +kernel
theorem dX11_in_6 : decode cX11_in 6 = .ok (.lload_n 0, 1) := by decide +kernel
theorem dX11_in_7 : decode cX11_in 7 = .ok (.lload 4, 2) := by decide +kernel
theorem dX11_in_9 : decode cX11_in 9 = .ok (.lcmp, 1) := by decide +kernel
theorem dX11_in_10 : decode cX11_in 10 = .ok (.ifCond .gt 7, 3) := by decide +kernel
theorem dX11_in_13 : decode cX11_in 13 = .ok (.iconst 1, 1) := by decide +kernel
theorem dX11_in_14 : decode cX11_in 14 = .ok (.goto 4, 3) := by decide +kernel
theorem dX11_in_17 : decode cX11_in 17 = .ok (.iconst 0, 1) := by decide +kernel
theorem dX11_in_18 : decode cX11_in 18 = .ok (.ireturn, 1) := by decide +kernel
theorem dX11_goes_0 : decode cX11_goes 0 = .ok (.aload_n 0, 1) := by decide +kernel
theorem dX11_goes_1 : decode cX11_goes 1 = .ok (.iload_n 1, 1) := by decide +kernel
theorem dX11_goes_2 : decode cX11_goes 2 = .ok (.ifCond .ne 7, 3) := by decide +kernel
theorem dX11_goes_5 : decode cX11_goes 5 = .ok (.iconst 1, 1) := by decide +kernel
theorem dX11_goes_6 : decode cX11_goes 6 = .ok (.goto 12, 3) := by decide +kernel
theorem dX11_goes_9 : decode cX11_goes 9 = .ok (.iload_n 2, 1) := by decide +kernel
theorem dX11_goes_10 : decode cX11_goes 10 = .ok (.ifCond .ne 7, 3) := by decide +kernel
theorem dX11_goes_13 : decode cX11_goes 13 = .ok (.iconst 2, 1) := by decide +kernel
theorem dX11_goes_14 : decode cX11_goes 14 = .ok (.goto 4, 3) := by decide +kernel
theorem dX11_goes_17 : decode cX11_goes 17 = .ok (.iconst 0, 1) := by decide +kernel
theorem dX11_goes_18 : decode cX11_goes 18 = .ok (.putfield 28, 3) := by decide +kernel
theorem dX11_goes_21 : decode cX11_goes 21 = .ok (.aload_n 0, 1) := by decide +kernel
theorem dX11_goes_22 : decode cX11_goes 22 = .ok (.getfield 28, 3) := by decide +kernel
theorem dX11_goes_25 : decode cX11_goes 25 = .ok (.ifCond .ne 7, 3) := by decide +kernel
theorem dX11_goes_28 : decode cX11_goes 28 = .ok (.iconst 1, 1) := by decide +kernel
theorem dX11_goes_29 : decode cX11_goes 29 = .ok (.goto 4, 3) := by decide +kernel
theorem dX11_goes_32 : decode cX11_goes 32 = .ok (.iconst 0, 1) := by decide +kernel
theorem dX11_goes_33 : decode cX11_goes 33 = .ok (.ireturn, 1) := by decide +kernel
theorem dX11_save_0 : decode cX11_save 0 = .ok (.aload_n 0, 1) := by decide +kernel
theorem dX11_save_1 : decode cX11_save 1 = .ok (.getfield 32, 3) := by decide +kernel
theorem dX11_save_4 : decode cX11_save 4 = .ok (.iconst 4, 1) := by decide +kernel
theorem dX11_save_5 : decode cX11_save 5 = .ok (.if_icmp .ne 44, 3) := by decide +kernel
theorem dX11_save_8 : decode cX11_save 8 = .ok (.iconst 0, 1) := by decide +kernel
theorem dX11_save_9 : decode cX11_save 9 = .ok (.istore_n 1, 1) := by decide +kernel
theorem dX11_save_10 : decode cX11_save 10 = .ok (.iload_n 1, 1) := by decide +kernel
theorem dX11_save_11 : decode cX11_save 11 = .ok (.sipush 2412, 3) := by decide +kernel
theorem dX11_save_14 : decode cX11_save 14 = .ok (.if_icmp .ge 25, 3) := by decide +kernel
theorem dX11_save_17 : decode cX11_save 17 = .ok (.aload_n 0, 1) := by decide +kernel
theorem dX11_save_18 : decode cX11_save 18 = .ok (.getfield 13, 3) := by decide +kernel
theorem dX11_save_21 : decode cX11_save 21 = .ok (.iload_n 1, 1) := by decide +kernel
theorem dX11_save_22 : decode cX11_save 22 = .ok (.aload_n 0, 1) := by decide +kernel
theorem dX11_save_23 : decode cX11_save 23 = .ok (.getfield 13, 3) := by decide +kernel
theorem dX11_save_26 : decode cX11_save 26 = .ok (.iload_n 1, 1) := by decide +kernel
theorem dX11_save_27 : decode cX11_save 27 = .ok (.sipush 804, 3) := by decide +kernel
theorem dX11_save_30 : decode cX11_save 30 = .ok (.iadd, 1) := by decide +kernel
theorem dX11_save_31 : decode cX11_save 31 = .ok (.iaload, 1) := by decide +kernel
theorem dX11_save_32 : decode cX11_save 32 = .ok (.iastore, 1) := by decide +kernel
theorem dX11_save_33 : decode cX11_save 33 = .ok (.iinc 1 1, 3) := by decide +kernel
theorem dX11_save_36 : decode cX11_save 36 = .ok (.goto (-26), 3) := by decide +kernel
theorem dX11_save_39 : decode cX11_save 39 = .ok (.aload_n 0, 1) := by decide +kernel
theorem dX11_save_40 : decode cX11_save 40 = .ok (.dup, 1) := by decide +kernel
theorem dX11_save_41 : decode cX11_save 41 = .ok (.getfield 32, 3) := by decide +kernel
theorem dX11_save_44 : decode cX11_save 44 = .ok (.iconst 1, 1) := by decide +kernel
theorem dX11_save_45 : decode cX11_save 45 = .ok (.isub, 1) := by decide +kernel
theorem dX11_save_46 : decode cX11_save 46 = .ok (.putfield 32, 3) := by decide +kernel
theorem dX11_save_49 : decode cX11_save 49 = .ok (.iconst 0, 1) := by decide +kernel
theorem dX11_save_50 : decode cX11_save 50 = .ok (.istore_n 1, 1) := by decide +kernel
theorem dX11_save_51 : decode cX11_save 51 = .ok (.iload_n 1, 1) := by decide +kernel
theorem dX11_save_52 : decode cX11_save 52 = .ok (.sipush 804, 3) := by decide +kernel
theorem dX11_save_55 : decode cX11_save 55 = .ok (.if_icmp .ge 30, 3) := by decide +kernel
theorem dX11_save_58 : decode cX11_save 58 = .ok (.aload_n 0, 1) := by decide +kernel
theorem dX11_save_59 : decode cX11_save 59 = .ok (.getfield 13, 3) := by decide +kernel
theorem dX11_save_62 : decode cX11_save 62 = .ok (.sipush 804, 3) := by decide +kernel
theorem dX11_save_65 : decode cX11_save 65 = .ok (.aload_n 0, 1) := by decide +kernel
theorem dX11_save_66 : decode cX11_save 66 = .ok (.getfield 32, 3) := by decide +kernel
theorem dX11_save_69 : decode cX11_save 69 = .ok (.imul, 1) := by decide +kernel
theorem dX11_save_70 : decode cX11_save 70 = .ok (.iload_n 1, 1) := by decide +kernel
theorem dX11_save_71 : decode cX11_save 71 = .ok (.iadd, 1) := by decide +kernel
theorem dX11_save_72 : decode cX11_save 72 = .ok (.aload_n 0, 1) := by decide +kernel
theorem dX11_save_73 : decode cX11_save 73 = .ok (.getfield 7, 3) := by decide +kernel
theorem dX11_save_76 : decode cX11_save 76 = .ok (.iload_n 1, 1) := by decide +kernel
theorem dX11_save_77 : decode cX11_save 77 = .ok (.iaload, 1) := by decide +kernel
theorem dX11_save_78 : decode cX11_save 78 = .ok (.iastore, 1) := by decide +kernel
theorem dX11_save_79 : decode cX11_save 79 = .ok (.iinc 1 1, 3) := by decide +kernel
theorem dX11_save_82 : decode cX11_save 82 = .ok (.goto (-31), 3) := by decide +kernel
theorem dX11_save_85 : decode cX11_save 85 = .ok (.aload_n 0, 1) := by decide +kernel
theorem dX11_save_86 : decode cX11_save 86 = .ok (.dup, 1) := by decide +kernel
theorem dX11_save_87 : decode cX11_save 87 = .ok (.getfield 32, 3) := by decide +kernel
theorem dX11_save_90 : decode cX11_save 90 = .ok (.iconst 1, 1) := by decide +kernel
theorem dX11_save_91 : decode cX11_save 91 = .ok (.iadd, 1) := by decide +kernel
theorem dX11_save_92 : decode cX11_save 92 = .ok (.putfield 32, 3) := by decide +kernel
theorem dX11_save_95 : decode cX11_save 95 = .ok (.return_, 1) := by decide +kernel
set_option maxRecDepth 20000 in
theorem ggX11_isChannel_X11_in : GoodIn wsX11_isChannel wsX11_in := goodIn_r _ [5] (by decide +kernel) (by decide +kernel)
set_option maxRecDepth 20000 in
theorem gX11_isChannel_X11_in : GoodIn wsX11_isChannel (va_wsS RX11 37 yX11_in wsX11_in) := goodIn_app (goodIn_of _ (by decide +kernel)) ggX11_isChannel_X11_in
theorem dX11_isChannel_0 : decode cX11_isChannel 0 = .ok (.iload_n 0, 1) := by decide +kernel
theorem dX11_isChannel_1 : decode cX11_isChannel 1 = .ok (.i2l, 1) := by decide +kernel
theorem dX11_isChannel_2 : decode cX11_isChannel 2 = .ok (.lconst 0, 1) := by decide +kernel
theorem dX11_isChannel_3 : decode cX11_isChannel 3 = .ok (.ldc2_w 35, 3) := by decide +kernel
theorem dX11_isChannel_6 : decode cX11_isChannel 6 = .ok (.invokestatic 37, 3) := by decide +kernel
theorem dX11_isChannel_9 : decode cX11_isChannel 9 = .ok (.ireturn, 1) := by decide +kernel
set_option maxRecDepth 20000 in
theorem ggX11_isLevel_X11_in : GoodIn wsX11_isLevel wsX11_in := goodIn_r _ [5] (by decide +kernel) (by decide +kernel)
set_option maxRecDepth 20000 in
theorem gX11_isLevel_X11_in : GoodIn wsX11_isLevel (va_wsS RX11 37 yX11_in wsX11_in) := goodIn_app (goodIn_of _ (by decide +kernel)) ggX11_isLevel_X11_in
theorem dX11_isLevel_0 : decode cX11_isLevel 0 = .ok (.iload_n 0, 1) := by decide +kernel
theorem dX11_isLevel_1 : decode cX11_isLevel 1 = .ok (.i2l, 1) := by decide +kernel
theorem dX11_isLevel_2 : decode cX11_isLevel 2 = .ok (.lconst 0, 1) := by decide +kernel
theorem dX11_isLevel_3 : decode cX11_isLevel 3 = .ok (.ldc2_w 41, 3) := by decide +kernel
theorem dX11_isLevel_6 : decode cX11_isLevel 6 = .ok (.invokestatic 37, 3) := by decide +kernel
theorem dX11_isLevel_9 : decode cX11_isLevel 9 = .ok (.ireturn, 1) := by decide +kernel
set_option maxRecDepth 20000 in
theorem ggX11_isStart_X11_in : GoodIn wsX11_isStart wsX11_in := goodIn_r _ [5] (by decide +kernel) (by decide +kernel)
set_option maxRecDepth 20000 in
theorem gX11_isStart_X11_in : GoodIn wsX11_isStart (va_wsS RX11 37 yX11_in wsX11_in) := goodIn_app (goodIn_of _ (by decide +kernel)) ggX11_isStart_X11_in
theorem dX11_isStart_0 : decode cX11_isStart 0 = .ok (.iload_n 0, 1) := by decide +kernel
theorem dX11_isStart_1 : decode cX11_isStart 1 = .ok (.i2l, 1) := by decide +kernel
theorem dX11_isStart_2 : decode cX11_isStart 2 = .ok (.lconst 0, 1) := by decide +kernel
theorem dX11_isStart_3 : decode cX11_isStart 3 = .ok (.ldc2_w 43, 3) := by decide +kernel
theorem dX11_isStart_6 : decode cX11_isStart 6 = .ok (.invokestatic 37, 3) := by decide +kernel
theorem dX11_isStart_9 : decode cX11_isStart 9 = .ok (.ireturn, 1) := by decide +kernel
theorem dX11_adds_0 : decode cX11_adds 0 = .ok (.bipush 10, 2) := by decide +kernel
theorem dX11_adds_2 : decode cX11_adds 2 = .ok (.bipush 6, 2) := by decide +kernel
theorem dX11_adds_4 : decode cX11_adds 4 = .ok (.aload_n 0, 1) := by decide +kernel
theorem dX11_adds_5 : decode cX11_adds 5 = .ok (.getfield 7, 3) := by decide +kernel
theorem dX11_adds_8 : decode cX11_adds 8 = .ok (.iconst 5, 1) := by decide +kernel
theorem dX11_adds_9 : decode cX11_adds 9 = .ok (.iaload, 1) := by decide +kernel
theorem dX11_adds_10 : decode cX11_adds 10 = .ok (.imul, 1) := by decide +kernel
theorem dX11_adds_11 : decode cX11_adds 11 = .ok (.iadd, 1) := by decide +kernel
theorem dX11_adds_12 : decode cX11_adds 12 = .ok (.istore 7, 2) := by decide +kernel
theorem dX11_adds_14 : decode cX11_adds 14 = .ok (.aload_n 0, 1) := by decide +kernel
theorem dX11_adds_15 : decode cX11_adds 15 = .ok (.getfield 7, 3) := by decide +kernel
theorem dX11_adds_18 : decode cX11_adds 18 = .ok (.iload 7, 2) := by decide +kernel
theorem dX11_adds_20 : decode cX11_adds 20 = .ok (.iload_n 1, 1) := by decide +kernel
theorem dX11_adds_21 : decode cX11_adds 21 = .ok (.iastore, 1) := by decide +kernel
theorem dX11_adds_22 : decode cX11_adds 22 = .ok (.aload_n 0, 1) := by decide +kernel
theorem dX11_adds_23 : decode cX11_adds 23 = .ok (.getfield 7, 3) := by decide +kernel
theorem dX11_adds_26 : decode cX11_adds 26 = .ok (.iload 7, 2) := by decide +kernel
theorem dX11_adds_28 : decode cX11_adds 28 = .ok (.iconst 1, 1) := by decide +kernel
theorem dX11_adds_29 : decode cX11_adds 29 = .ok (.iadd, 1) := by decide +kernel
theorem dX11_adds_30 : decode cX11_adds 30 = .ok (.iload_n 2, 1) := by decide +kernel
theorem dX11_adds_31 : decode cX11_adds 31 = .ok (.iastore, 1) := by decide +kernel
theorem dX11_adds_32 : decode cX11_adds 32 = .ok (.aload_n 0, 1) := by decide +kernel
theorem dX11_adds_33 : decode cX11_adds 33 = .ok (.getfield 7, 3) := by decide +kernel
theorem dX11_adds_36 : decode cX11_adds 36 = .ok (.iload 7, 2) := by decide +kernel
theorem dX11_adds_38 : decode cX11_adds 38 = .ok (.iconst 2, 1) := by decide +kernel
theorem dX11_adds_39 : decode cX11_adds 39 = .ok (.iadd, 1) := by decide +kernel
theorem dX11_adds_40 : decode cX11_adds 40 = .ok (.iload_n 3, 1) := by decide +kernel
theorem dX11_adds_41 : decode cX11_adds 41 = .ok (.iastore, 1) := by decide +kernel
theorem dX11_adds_42 : decode cX11_adds 42 = .ok (.aload_n 0, 1) := by decide +kernel
theorem dX11_adds_43 : decode cX11_adds 43 = .ok (.getfield 7, 3) := by decide +kernel
theorem dX11_adds_46 : decode cX11_adds 46 = .ok (.iload 7, 2) := by decide +kernel
theorem dX11_adds_48 : decode cX11_adds 48 = .ok (.iconst 3, 1) := by decide +kernel
theorem dX11_adds_49 : decode cX11_adds 49 = .ok (.iadd, 1) := by decide +kernel
theorem dX11_adds_50 : decode cX11_adds 50 = .ok (.iload 4, 2) := by decide +kernel
theorem dX11_adds_52 : decode cX11_adds 52 = .ok (.iastore, 1) := by decide +kernel
theorem dX11_adds_53 : decode cX11_adds 53 = .ok (.aload_n 0, 1) := by decide +kernel
theorem dX11_adds_54 : decode cX11_adds 54 = .ok (.getfield 7, 3) := by decide +kernel
theorem dX11_adds_57 : decode cX11_adds 57 = .ok (.iload 7, 2) := by decide +kernel
theorem dX11_adds_59 : decode cX11_adds 59 = .ok (.iconst 4, 1) := by decide +kernel
theorem dX11_adds_60 : decode cX11_adds 60 = .ok (.iadd, 1) := by decide +kernel
theorem dX11_adds_61 : decode cX11_adds 61 = .ok (.iload 5, 2) := by decide +kernel
theorem dX11_adds_63 : decode cX11_adds 63 = .ok (.iastore, 1) := by decide +kernel
theorem dX11_adds_64 : decode cX11_adds 64 = .ok (.aload_n 0, 1) := by decide +kernel
theorem dX11_adds_65 : decode cX11_adds 65 = .ok (.getfield 7, 3) := by decide +kernel
theorem dX11_adds_68 : decode cX11_adds 68 = .ok (.iload 7, 2) := by decide +kernel
theorem dX11_adds_70 : decode cX11_adds 70 = .ok (.iconst 5, 1) := by decide +kernel
theorem dX11_adds_71 : decode cX11_adds 71 = .ok (.iadd, 1) := by decide +kernel
theorem dX11_adds_72 : decode cX11_adds 72 = .ok (.iload 6, 2) := by decide +kernel
theorem dX11_adds_74 : decode cX11_adds 74 = .ok (.iastore, 1) := by decide +kernel
theorem dX11_adds_75 : decode cX11_adds 75 = .ok (.aload_n 0, 1) := by decide +kernel
theorem dX11_adds_76 : decode cX11_adds 76 = .ok (.getfield 7, 3) := by decide +kernel
theorem dX11_adds_79 : decode cX11_adds 79 = .ok (.iconst 5, 1) := by decide +kernel
theorem dX11_adds_80 : decode cX11_adds 80 = .ok (.dup2, 1) := by decide +kernel
theorem dX11_adds_81 : decode cX11_adds 81 = .ok (.iaload, 1) := by decide +kernel
theorem dX11_adds_82 : decode cX11_adds 82 = .ok (.iconst 1, 1) := by decide +kernel
theorem dX11_adds_83 : decode cX11_adds 83 = .ok (.iadd, 1) := by decide +kernel
theorem dX11_adds_84 : decode cX11_adds 84 = .ok (.iastore, 1) := by decide +kernel
theorem dX11_adds_85 : decode cX11_adds 85 = .ok (.aload_n 0, 1) := by decide +kernel
theorem dX11_adds_86 : decode cX11_adds 86 = .ok (.getfield 7, 3) := by decide +kernel
theorem dX11_adds_89 : decode cX11_adds 89 = .ok (.iconst 5, 1) := by decide +kernel
theorem dX11_adds_90 : decode cX11_adds 90 = .ok (.iaload, 1) := by decide +kernel
theorem dX11_adds_91 : decode cX11_adds 91 = .ok (.iconst 1, 1) := by decide +kernel
theorem dX11_adds_92 : decode cX11_adds 92 = .ok (.isub, 1) := by decide +kernel
theorem dX11_adds_93 : decode cX11_adds 93 = .ok (.ireturn, 1) := by decide +kernel
set_option maxRecDepth 20000 in
theorem ggX11_addPulsed_X11_isChannel : GoodIn wsX11_addPulsed wsX11_isChannel := goodIn_r _ [6, 7, 8, 9, 5, 10] (by decide +kernel) (by decide +kernel)
set_option maxRecDepth 20000 in
theorem gX11_addPulsed_X11_isChannel : GoodIn wsX11_addPulsed (va_wsS RX11 45 yX11_isChannel wsX11_isChannel) := goodIn_app (goodIn_of _ (by decide +kernel)) ggX11_addPulsed_X11_isChannel
set_option maxRecDepth 20000 in
theorem ggX11_addPulsed_X11_isLevel : GoodIn wsX11_addPulsed wsX11_isLevel := goodIn_r _ [13, 14, 8, 9, 5, 10] (by decide +kernel) (by decide +kernel)
set_option maxRecDepth 20000 in
theorem gX11_addPulsed_X11_isLevel : GoodIn wsX11_addPulsed (va_wsS RX11 49 yX11_isLevel wsX11_isLevel) := goodIn_app (goodIn_of _ (by decide +kernel)) ggX11_addPulsed_X11_isLevel
set_option maxRecDepth 20000 in
theorem ggX11_addPulsed_X11_isStart : GoodIn wsX11_addPulsed wsX11_isStart := goodIn_r _ [17, 18, 8, 9, 5, 10] (by decide +kernel) (by decide +kernel)
set_option maxRecDepth 20000 in
theorem gX11_addPulsed_X11_isStart : GoodIn wsX11_addPulsed (va_wsS RX11 52 yX11_isStart wsX11_isStart) := goodIn_app (goodIn_of _ (by decide +kernel)) ggX11_addPulsed_X11_isStart
set_option maxRecDepth 20000 in
theorem ggX11_addPulsed_X11_in : GoodIn wsX11_addPulsed wsX11_in := goodIn_r _ [10] (by decide +kernel) (by decide +kernel)
set_option maxRecDepth 20000 in
theorem gX11_addPulsed_X11_in : GoodIn wsX11_addPulsed (va_wsS RX11 37 yX11_in wsX11_in) := goodIn_app (goodIn_of _ (by decide +kernel)) ggX11_addPulsed_X11_in
set_option maxRecDepth 20000 in
theorem ggX11_addPulsed_X11_goes : GoodIn wsX11_addPulsed wsX11_goes := goodIn_r _ [22, 23, 34, 35, 36, 37, 38, 39, 40, 41, 42, 43, 44, 45, 46, 47] (by decide +kernel) (by decide +kernel)
set_option maxRecDepth 20000 in
theorem gX11_addPulsed_X11_goes : GoodIn wsX11_addPulsed (wsV RX11 57 RX11 yX11_goes wsX11_goes) := goodIn_app (goodIn_of _ (by decide +kernel)) ggX11_addPulsed_X11_goes
set_option maxRecDepth 20000 in
theorem ggX11_addPulsed_X11_save : GoodIn wsX11_addPulsed wsX11_save := goodIn_r _ [27, 28, 29, 2, 34, 35, 36, 37, 38, 39, 40, 41, 42, 43, 44, 45, 46, 47] (by decide +kernel) (by decide +kernel)
set_option maxRecDepth 20000 in
theorem gX11_addPulsed_X11_save : GoodIn wsX11_addPulsed (wsV RX11 61 RX11 yX11_save wsX11_save) := goodIn_app (goodIn_of _ (by decide +kernel)) ggX11_addPulsed_X11_save
set_option maxRecDepth 20000 in
theorem ggX11_addPulsed_X11_adds : GoodIn wsX11_addPulsed wsX11_adds := goodIn_r _ [33, 2, 34, 35, 36, 37, 38, 39, 40, 41, 42, 43, 44, 45, 46, 47] (by decide +kernel) (by decide +kernel)
set_option maxRecDepth 20000 in
theorem gX11_addPulsed_X11_adds : GoodIn wsX11_addPulsed (wsV RX11 64 RX11 yX11_adds wsX11_adds) := goodIn_app (goodIn_of _ (by decide +kernel)) ggX11_addPulsed_X11_adds
theorem dX11_addPulsed_0 : decode cX11_addPulsed 0 = .ok (.iload_n 1, 1) := by decide +kernel
theorem dX11_addPulsed_1 : decode cX11_addPulsed 1 = .ok (.invokestatic 45, 3) := by decide +kernel
theorem dX11_addPulsed_4 : decode cX11_addPulsed 4 = .ok (.ifCond .eq 47, 3) := by decide +kernel
theorem dX11_addPulsed_7 : decode cX11_addPulsed 7 = .ok (.iload_n 2, 1) := by decide +kernel
theorem dX11_addPulsed_8 : decode cX11_addPulsed 8 = .ok (.invokestatic 49, 3) := by decide +kernel
theorem dX11_addPulsed_11 : decode cX11_addPulsed 11 = .ok (.ifCond .eq 40, 3) := by decide +kernel
theorem dX11_addPulsed_14 : decode cX11_addPulsed 14 = .ok (.iload_n 3, 1) := by decide +kernel
theorem dX11_addPulsed_15 : decode cX11_addPulsed 15 = .ok (.invokestatic 52, 3) := by decide +kernel
theorem dX11_addPulsed_18 : decode cX11_addPulsed 18 = .ok (.ifCond .eq 33, 3) := by decide +kernel
theorem dX11_addPulsed_21 : decode cX11_addPulsed 21 = .ok (.iload 5, 2) := by decide +kernel
theorem dX11_addPulsed_23 : decode cX11_addPulsed 23 = .ok (.i2l, 1) := by decide +kernel
theorem dX11_addPulsed_24 : decode cX11_addPulsed 24 = .ok (.lconst 1, 1) := by decide +kernel
theorem dX11_addPulsed_25 : decode cX11_addPulsed 25 = .ok (.ldc2_w 55, 3) := by decide +kernel
theorem dX11_addPulsed_28 : decode cX11_addPulsed 28 = .ok (.invokestatic 37, 3) := by decide +kernel
theorem dX11_addPulsed_31 : decode cX11_addPulsed 31 = .ok (.ifCond .eq 20, 3) := by decide +kernel
theorem dX11_addPulsed_34 : decode cX11_addPulsed 34 = .ok (.iload 4, 2) := by decide +kernel
theorem dX11_addPulsed_36 : decode cX11_addPulsed 36 = .ok (.i2l, 1) := by decide +kernel
theorem dX11_addPulsed_37 : decode cX11_addPulsed 37 = .ok (.lconst 1, 1) := by decide +kernel
theorem dX11_addPulsed_38 : decode cX11_addPulsed 38 = .ok (.iload 5, 2) := by decide +kernel
theorem dX11_addPulsed_40 : decode cX11_addPulsed 40 = .ok (.i2l, 1) := by decide +kernel
theorem dX11_addPulsed_41 : decode cX11_addPulsed 41 = .ok (.invokestatic 37, 3) := by decide +kernel
theorem dX11_addPulsed_44 : decode cX11_addPulsed 44 = .ok (.ifCond .eq 7, 3) := by decide +kernel
theorem dX11_addPulsed_47 : decode cX11_addPulsed 47 = .ok (.iconst 1, 1) := by decide +kernel
theorem dX11_addPulsed_48 : decode cX11_addPulsed 48 = .ok (.goto 4, 3) := by decide +kernel
theorem dX11_addPulsed_51 : decode cX11_addPulsed 51 = .ok (.iconst 0, 1) := by decide +kernel
theorem dX11_addPulsed_52 : decode cX11_addPulsed 52 = .ok (.istore 6, 2) := by decide +kernel
theorem dX11_addPulsed_54 : decode cX11_addPulsed 54 = .ok (.aload_n 0, 1) := by decide +kernel
theorem dX11_addPulsed_55 : decode cX11_addPulsed 55 = .ok (.iload 6, 2) := by decide +kernel
theorem dX11_addPulsed_57 : decode cX11_addPulsed 57 = .ok (.aload_n 0, 1) := by decide +kernel
theorem dX11_addPulsed_58 : decode cX11_addPulsed 58 = .ok (.getfield 7, 3) := by decide +kernel
theorem dX11_addPulsed_61 : decode cX11_addPulsed 61 = .ok (.iconst 5, 1) := by decide +kernel
theorem dX11_addPulsed_62 : decode cX11_addPulsed 62 = .ok (.iaload, 1) := by decide +kernel
theorem dX11_addPulsed_63 : decode cX11_addPulsed 63 = .ok (.bipush 10, 2) := by decide +kernel
theorem dX11_addPulsed_65 : decode cX11_addPulsed 65 = .ok (.if_icmp .ge 7, 3) := by decide +kernel
theorem dX11_addPulsed_68 : decode cX11_addPulsed 68 = .ok (.iconst 1, 1) := by decide +kernel
theorem dX11_addPulsed_69 : decode cX11_addPulsed 69 = .ok (.goto 4, 3) := by decide +kernel
theorem dX11_addPulsed_72 : decode cX11_addPulsed 72 = .ok (.iconst 0, 1) := by decide +kernel
theorem dX11_addPulsed_73 : decode cX11_addPulsed 73 = .ok (.invokevirtual 57, 3) := by decide +kernel
theorem dX11_addPulsed_76 : decode cX11_addPulsed 76 = .ok (.ifCond .ne 5, 3) := by decide +kernel
theorem dX11_addPulsed_79 : decode cX11_addPulsed 79 = .ok (.iconst 0, 1) := by decide +kernel
theorem dX11_addPulsed_80 : decode cX11_addPulsed 80 = .ok (.ireturn, 1) := by decide +kernel
theorem dX11_addPulsed_81 : decode cX11_addPulsed 81 = .ok (.aload_n 0, 1) := by decide +kernel
theorem dX11_addPulsed_82 : decode cX11_addPulsed 82 = .ok (.invokevirtual 61, 3) := by decide +kernel
theorem dX11_addPulsed_85 : decode cX11_addPulsed 85 = .ok (.aload_n 0, 1) := by decide +kernel
theorem dX11_addPulsed_86 : decode cX11_addPulsed 86 = .ok (.iconst 0, 1) := by decide +kernel
theorem dX11_addPulsed_87 : decode cX11_addPulsed 87 = .ok (.iload_n 1, 1) := by decide +kernel
theorem dX11_addPulsed_88 : decode cX11_addPulsed 88 = .ok (.iload_n 2, 1) := by decide +kernel
theorem dX11_addPulsed_89 : decode cX11_addPulsed 89 = .ok (.iload_n 3, 1) := by decide +kernel
theorem dX11_addPulsed_90 : decode cX11_addPulsed 90 = .ok (.iload 4, 2) := by decide +kernel
theorem dX11_addPulsed_92 : decode cX11_addPulsed 92 = .ok (.iload 5, 2) := by decide +kernel
theorem dX11_addPulsed_94 : decode cX11_addPulsed 94 = .ok (.invokevirtual 64, 3) := by decide +kernel
theorem dX11_addPulsed_97 : decode cX11_addPulsed 97 = .ok (.ireturn, 1) := by decide +kernel
set_option maxRecDepth 20000 in
theorem ggX11_addHopping_X11_isChannel : GoodIn wsX11_addHopping wsX11_isChannel := goodIn_r _ [7, 1, 8, 9, 6, 10] (by decide +kernel) (by decide +kernel)
set_option maxRecDepth 20000 in
theorem gX11_addHopping_X11_isChannel : GoodIn wsX11_addHopping (va_wsS RX11 45 yX11_isChannel wsX11_isChannel) := goodIn_app (goodIn_of _ (by decide +kernel)) ggX11_addHopping_X11_isChannel
set_option maxRecDepth 20000 in
theorem ggX11_addHopping_X11_in : GoodIn wsX11_addHopping wsX11_in := goodIn_r _ [10] (by decide +kernel) (by decide +kernel)
set_option maxRecDepth 20000 in
theorem gX11_addHopping_X11_in : GoodIn wsX11_addHopping (va_wsS RX11 37 yX11_in wsX11_in) := goodIn_app (goodIn_of _ (by decide +kernel)) ggX11_addHopping_X11_in
set_option maxRecDepth 20000 in
theorem ggX11_addHopping_X11_isLevel : GoodIn wsX11_addHopping wsX11_isLevel := goodIn_r _ [13, 14, 8, 9, 6, 10] (by decide +kernel) (by decide +kernel)
set_option maxRecDepth 20000 in
theorem gX11_addHopping_X11_isLevel : GoodIn wsX11_addHopping (va_wsS RX11 49 yX11_isLevel wsX11_isLevel) := goodIn_app (goodIn_of _ (by decide +kernel)) ggX11_addHopping_X11_isLevel
set_option maxRecDepth 20000 in
theorem ggX11_addHopping_X11_isStart : GoodIn wsX11_addHopping wsX11_isStart := goodIn_r _ [17, 18, 8, 9, 6, 10] (by decide +kernel) (by decide +kernel)
set_option maxRecDepth 20000 in
theorem gX11_addHopping_X11_isStart : GoodIn wsX11_addHopping (va_wsS RX11 52 yX11_isStart wsX11_isStart) := goodIn_app (goodIn_of _ (by decide +kernel)) ggX11_addHopping_X11_isStart
set_option maxRecDepth 20000 in
theorem ggX11_addHopping_X11_goes : GoodIn wsX11_addHopping wsX11_goes := goodIn_r _ [22, 23, 34, 35, 36, 37, 38, 39, 40, 41, 42, 43, 44, 45, 46, 47] (by decide +kernel) (by decide +kernel)
set_option maxRecDepth 20000 in
theorem gX11_addHopping_X11_goes : GoodIn wsX11_addHopping (wsV RX11 57 RX11 yX11_goes wsX11_goes) := goodIn_app (goodIn_of _ (by decide +kernel)) ggX11_addHopping_X11_goes
set_option maxRecDepth 20000 in
theorem ggX11_addHopping_X11_save : GoodIn wsX11_addHopping wsX11_save := goodIn_r _ [27, 28, 29, 3, 34, 35, 36, 37, 38, 39, 40, 41, 42, 43, 44, 45, 46, 47] (by decide +kernel) (by decide +kernel)
set_option maxRecDepth 20000 in
theorem gX11_addHopping_X11_save : GoodIn wsX11_addHopping (wsV RX11 61 RX11 yX11_save wsX11_save) := goodIn_app (goodIn_of _ (by decide +kernel)) ggX11_addHopping_X11_save
set_option maxRecDepth 20000 in
theorem ggX11_addHopping_X11_adds : GoodIn wsX11_addHopping wsX11_adds := goodIn_r _ [33, 3, 34, 35, 36, 37, 38, 39, 40, 41, 42, 43, 44, 45, 46, 47] (by decide +kernel) (by decide +kernel)
set_option maxRecDepth 20000 in
theorem gX11_addHopping_X11_adds : GoodIn wsX11_addHopping (wsV RX11 64 RX11 yX11_adds wsX11_adds) := goodIn_app (goodIn_of _ (by decide +kernel)) ggX11_addHopping_X11_adds
theorem dX11_addHopping_0 : decode cX11_addHopping 0 = .ok (.iload_n 1, 1) := by decide +kernel
theorem dX11_addHopping_1 : decode cX11_addHopping 1 = .ok (.invokestatic 45, 3) := by decide +kernel
theorem dX11_addHopping_4 : decode cX11_addHopping 4 = .ok (.ifCond .eq 47, 3) := by decide +kernel
theorem dX11_addHopping_7 : decode cX11_addHopping 7 = .ok (.iload_n 2, 1) := by decide +kernel
theorem dX11_addHopping_8 : decode cX11_addHopping 8 = .ok (.i2l, 1) := by decide +kernel
theorem dX11_addHopping_9 : decode cX11_addHopping 9 = .ok (.lconst 1, 1) := by decide +kernel
theorem dX11_addHopping_10 : decode cX11_addHopping 10 = .ok (.ldc2_w 35, 3) := by decide +kernel
theorem dX11_addHopping_13 : decode cX11_addHopping 13 = .ok (.invokestatic 37, 3) := by decide +kernel
theorem dX11_addHopping_16 : decode cX11_addHopping 16 = .ok (.ifCond .eq 35, 3) := by decide +kernel
theorem dX11_addHopping_19 : decode cX11_addHopping 19 = .ok (.iload_n 3, 1) := by decide +kernel
theorem dX11_addHopping_20 : decode cX11_addHopping 20 = .ok (.i2l, 1) := by decide +kernel
theorem dX11_addHopping_21 : decode cX11_addHopping 21 = .ok (.lconst 1, 1) := by decide +kernel
theorem dX11_addHopping_22 : decode cX11_addHopping 22 = .ok (.ldc2_w 55, 3) := by decide +kernel
theorem dX11_addHopping_25 : decode cX11_addHopping 25 = .ok (.invokestatic 37, 3) := by decide +kernel
theorem dX11_addHopping_28 : decode cX11_addHopping 28 = .ok (.ifCond .eq 23, 3) := by decide +kernel
theorem dX11_addHopping_31 : decode cX11_addHopping 31 = .ok (.iload 4, 2) := by decide +kernel
theorem dX11_addHopping_33 : decode cX11_addHopping 33 = .ok (.invokestatic 49, 3) := by decide +kernel
theorem dX11_addHopping_36 : decode cX11_addHopping 36 = .ok (.ifCond .eq 15, 3) := by decide +kernel
theorem dX11_addHopping_39 : decode cX11_addHopping 39 = .ok (.iload 5, 2) := by decide +kernel
theorem dX11_addHopping_41 : decode cX11_addHopping 41 = .ok (.invokestatic 52, 3) := by decide +kernel
theorem dX11_addHopping_44 : decode cX11_addHopping 44 = .ok (.ifCond .eq 7, 3) := by decide +kernel
theorem dX11_addHopping_47 : decode cX11_addHopping 47 = .ok (.iconst 1, 1) := by decide +kernel
theorem dX11_addHopping_48 : decode cX11_addHopping 48 = .ok (.goto 4, 3) := by decide +kernel
theorem dX11_addHopping_51 : decode cX11_addHopping 51 = .ok (.iconst 0, 1) := by decide +kernel
theorem dX11_addHopping_52 : decode cX11_addHopping 52 = .ok (.istore 6, 2) := by decide +kernel
theorem dX11_addHopping_54 : decode cX11_addHopping 54 = .ok (.aload_n 0, 1) := by decide +kernel
theorem dX11_addHopping_55 : decode cX11_addHopping 55 = .ok (.iload 6, 2) := by decide +kernel
theorem dX11_addHopping_57 : decode cX11_addHopping 57 = .ok (.aload_n 0, 1) := by decide +kernel
theorem dX11_addHopping_58 : decode cX11_addHopping 58 = .ok (.getfield 7, 3) := by decide +kernel
theorem dX11_addHopping_61 : decode cX11_addHopping 61 = .ok (.iconst 5, 1) := by decide +kernel
theorem dX11_addHopping_62 : decode cX11_addHopping 62 = .ok (.iaload, 1) := by decide +kernel
theorem dX11_addHopping_63 : decode cX11_addHopping 63 = .ok (.bipush 10, 2) := by decide +kernel
theorem dX11_addHopping_65 : decode cX11_addHopping 65 = .ok (.if_icmp .ge 7, 3) := by decide +kernel
theorem dX11_addHopping_68 : decode cX11_addHopping 68 = .ok (.iconst 1, 1) := by decide +kernel
theorem dX11_addHopping_69 : decode cX11_addHopping 69 = .ok (.goto 4, 3) := by decide +kernel
theorem dX11_addHopping_72 : decode cX11_addHopping 72 = .ok (.iconst 0, 1) := by decide +kernel
theorem dX11_addHopping_73 : decode cX11_addHopping 73 = .ok (.invokevirtual 57, 3) := by decide +kernel
theorem dX11_addHopping_76 : decode cX11_addHopping 76 = .ok (.ifCond .ne 5, 3) := by decide +kernel
theorem dX11_addHopping_79 : decode cX11_addHopping 79 = .ok (.iconst 0, 1) := by decide +kernel
theorem dX11_addHopping_80 : decode cX11_addHopping 80 = .ok (.ireturn, 1) := by decide +kernel
theorem dX11_addHopping_81 : decode cX11_addHopping 81 = .ok (.aload_n 0, 1) := by decide +kernel
theorem dX11_addHopping_82 : decode cX11_addHopping 82 = .ok (.invokevirtual 61, 3) := by decide +kernel
theorem dX11_addHopping_85 : decode cX11_addHopping 85 = .ok (.aload_n 0, 1) := by decide +kernel
theorem dX11_addHopping_86 : decode cX11_addHopping 86 = .ok (.iconst 1, 1) := by decide +kernel
theorem dX11_addHopping_87 : decode cX11_addHopping 87 = .ok (.iload_n 1, 1) := by decide +kernel
theorem dX11_addHopping_88 : decode cX11_addHopping 88 = .ok (.iload_n 2, 1) := by decide +kernel
theorem dX11_addHopping_89 : decode cX11_addHopping 89 = .ok (.iload_n 3, 1) := by decide +kernel
theorem dX11_addHopping_90 : decode cX11_addHopping 90 = .ok (.iload 4, 2) := by decide +kernel
theorem dX11_addHopping_92 : decode cX11_addHopping 92 = .ok (.iload 5, 2) := by decide +kernel
theorem dX11_addHopping_94 : decode cX11_addHopping 94 = .ok (.invokevirtual 64, 3) := by decide +kernel
theorem dX11_addHopping_97 : decode cX11_addHopping 97 = .ok (.ireturn, 1) := by decide +kernel
set_option maxRecDepth 20000 in
theorem ggX11_removeSignal_X11_in : GoodIn wsX11_removeSignal wsX11_in := goodIn_r _ [5] (by decide +kernel) (by decide +kernel)
set_option maxRecDepth 20000 in
theorem gX11_removeSignal_X11_in : GoodIn wsX11_removeSignal (va_wsS RX11 37 yX11_in wsX11_in) := goodIn_app (goodIn_of _ (by decide +kernel)) ggX11_removeSignal_X11_in
set_option maxRecDepth 20000 in
theorem ggX11_removeSignal_X11_goes : GoodIn wsX11_removeSignal wsX11_goes := goodIn_r _ [9, 10, 17, 18, 19, 20, 21, 22, 23, 24, 25, 26, 27, 28, 29, 30] (by decide +kernel) (by decide +kernel)
set_option maxRecDepth 20000 in
theorem gX11_removeSignal_X11_goes : GoodIn wsX11_removeSignal (wsV RX11 57 RX11 yX11_goes wsX11_goes) := goodIn_app (goodIn_of _ (by decide +kernel)) ggX11_removeSignal_X11_goes
set_option maxRecDepth 20000 in
theorem ggX11_removeSignal_X11_save : GoodIn wsX11_removeSignal wsX11_save := goodIn_r _ [14, 15, 16, 1, 17, 18, 19, 20, 21, 22, 23, 24, 25, 26, 27, 28, 29, 30] (by decide +kernel) (by decide +kernel)
set_option maxRecDepth 20000 in
theorem gX11_removeSignal_X11_save : GoodIn wsX11_removeSignal (wsV RX11 61 RX11 yX11_save wsX11_save) := goodIn_app (goodIn_of _ (by decide +kernel)) ggX11_removeSignal_X11_save
theorem dX11_removeSignal_0 : decode cX11_removeSignal 0 = .ok (.aload_n 0, 1) := by decide +kernel
theorem dX11_removeSignal_1 : decode cX11_removeSignal 1 = .ok (.iload_n 1, 1) := by decide +kernel
theorem dX11_removeSignal_2 : decode cX11_removeSignal 2 = .ok (.i2l, 1) := by decide +kernel
theorem dX11_removeSignal_3 : decode cX11_removeSignal 3 = .ok (.lconst 0, 1) := by decide +kernel
theorem dX11_removeSignal_4 : decode cX11_removeSignal 4 = .ok (.aload_n 0, 1) := by decide +kernel
theorem dX11_removeSignal_5 : decode cX11_removeSignal 5 = .ok (.getfield 7, 3) := by decide +kernel
theorem dX11_removeSignal_8 : decode cX11_removeSignal 8 = .ok (.iconst 5, 1) := by decide +kernel
theorem dX11_removeSignal_9 : decode cX11_removeSignal 9 = .ok (.iaload, 1) := by decide +kernel
theorem dX11_removeSignal_10 : decode cX11_removeSignal 10 = .ok (.iconst 1, 1) := by decide +kernel
theorem dX11_removeSignal_11 : decode cX11_removeSignal 11 = .ok (.isub, 1) := by decide +kernel
theorem dX11_removeSignal_12 : decode cX11_removeSignal 12 = .ok (.i2l, 1) := by decide +kernel
theorem dX11_removeSignal_13 : decode cX11_removeSignal 13 = .ok (.invokestatic 37, 3) := by decide +kernel
theorem dX11_removeSignal_16 : decode cX11_removeSignal 16 = .ok (.iconst 1, 1) := by decide +kernel
theorem dX11_removeSignal_17 : decode cX11_removeSignal 17 = .ok (.invokevirtual 57, 3) := by decide +kernel
theorem dX11_removeSignal_20 : decode cX11_removeSignal 20 = .ok (.ifCond .ne 5, 3) := by decide +kernel
theorem dX11_removeSignal_23 : decode cX11_removeSignal 23 = .ok (.iconst 0, 1) := by decide +kernel
theorem dX11_removeSignal_24 : decode cX11_removeSignal 24 = .ok (.ireturn, 1) := by decide +kernel
theorem dX11_removeSignal_25 : decode cX11_removeSignal 25 = .ok (.aload_n 0, 1) := by decide +kernel
theorem dX11_removeSignal_26 : decode cX11_removeSignal 26 = .ok (.invokevirtual 61, 3) := by decide +kernel
theorem dX11_removeSignal_29 : decode cX11_removeSignal 29 = .ok (.bipush 10, 2) := by decide +kernel
theorem dX11_removeSignal_31 : decode cX11_removeSignal 31 = .ok (.bipush 6, 2) := by decide +kernel
theorem dX11_removeSignal_33 : decode cX11_removeSignal 33 = .ok (.iload_n 1, 1) := by decide +kernel
theorem dX11_removeSignal_34 : decode cX11_removeSignal 34 = .ok (.imul, 1) := by decide +kernel
theorem dX11_removeSignal_35 : decode cX11_removeSignal 35 = .ok (.iadd, 1) := by decide +kernel
theorem dX11_removeSignal_36 : decode cX11_removeSignal 36 = .ok (.istore_n 2, 1) := by decide +kernel
theorem dX11_removeSignal_37 : decode cX11_removeSignal 37 = .ok (.iload_n 2, 1) := by decide +kernel
theorem dX11_removeSignal_38 : decode cX11_removeSignal 38 = .ok (.bipush 64, 2) := by decide +kernel
theorem dX11_removeSignal_40 : decode cX11_removeSignal 40 = .ok (.if_icmp .ge 24, 3) := by decide +kernel
theorem dX11_removeSignal_43 : decode cX11_removeSignal 43 = .ok (.aload_n 0, 1) := by decide +kernel
theorem dX11_removeSignal_44 : decode cX11_removeSignal 44 = .ok (.getfield 7, 3) := by decide +kernel
theorem dX11_removeSignal_47 : decode cX11_removeSignal 47 = .ok (.iload_n 2, 1) := by decide +kernel
theorem dX11_removeSignal_48 : decode cX11_removeSignal 48 = .ok (.aload_n 0, 1) := by decide +kernel
theorem dX11_removeSignal_49 : decode cX11_removeSignal 49 = .ok (.getfield 7, 3) := by decide +kernel
theorem dX11_removeSignal_52 : decode cX11_removeSignal 52 = .ok (.iload_n 2, 1) := by decide +kernel
theorem dX11_removeSignal_53 : decode cX11_removeSignal 53 = .ok (.bipush 6, 2) := by decide +kernel
theorem dX11_removeSignal_55 : decode cX11_removeSignal 55 = .ok (.iadd, 1) := by decide +kernel
theorem dX11_removeSignal_56 : decode cX11_removeSignal 56 = .ok (.iaload, 1) := by decide +kernel
theorem dX11_removeSignal_57 : decode cX11_removeSignal 57 = .ok (.iastore, 1) := by decide +kernel
theorem dX11_removeSignal_58 : decode cX11_removeSignal 58 = .ok (.iinc 2 1, 3) := by decide +kernel
theorem dX11_removeSignal_61 : decode cX11_removeSignal 61 = .ok (.goto (-24), 3) := by decide +kernel
theorem dX11_removeSignal_64 : decode cX11_removeSignal 64 = .ok (.aload_n 0, 1) := by decide +kernel
theorem dX11_removeSignal_65 : decode cX11_removeSignal 65 = .ok (.getfield 7, 3) := by decide +kernel
theorem dX11_removeSignal_68 : decode cX11_removeSignal 68 = .ok (.iconst 5, 1) := by decide +kernel
theorem dX11_removeSignal_69 : decode cX11_removeSignal 69 = .ok (.dup2, 1) := by decide +kernel
theorem dX11_removeSignal_70 : decode cX11_removeSignal 70 = .ok (.iaload, 1) := by decide +kernel
theorem dX11_removeSignal_71 : decode cX11_removeSignal 71 = .ok (.iconst 1, 1) := by decide +kernel
theorem dX11_removeSignal_72 : decode cX11_removeSignal 72 = .ok (.isub, 1) := by decide +kernel
theorem dX11_removeSignal_73 : decode cX11_removeSignal 73 = .ok (.iastore, 1) := by decide +kernel
theorem dX11_removeSignal_74 : decode cX11_removeSignal 74 = .ok (.aload_n 0, 1) := by decide +kernel
theorem dX11_removeSignal_75 : decode cX11_removeSignal 75 = .ok (.getfield 7, 3) := by decide +kernel
theorem dX11_removeSignal_78 : decode cX11_removeSignal 78 = .ok (.iconst 5, 1) := by decide +kernel
theorem dX11_removeSignal_79 : decode cX11_removeSignal 79 = .ok (.iaload, 1) := by decide +kernel
theorem dX11_removeSignal_80 : decode cX11_removeSignal 80 = .ok (.ireturn, 1) := by decide +kernel
set_option maxRecDepth 20000 in
theorem ggX11_setLevels_X11_isLevel : GoodIn wsX11_setLevels wsX11_isLevel := goodIn_r _ [5, 6, 7, 8, 4, 9] (by decide +kernel) (by decide +kernel)
set_option maxRecDepth 20000 in
theorem gX11_setLevels_X11_isLevel : GoodIn wsX11_setLevels (va_wsS RX11 49 yX11_isLevel wsX11_isLevel) := goodIn_app (goodIn_of _ (by decide +kernel)) ggX11_setLevels_X11_isLevel
set_option maxRecDepth 20000 in
theorem ggX11_setLevels_X11_goes : GoodIn wsX11_setLevels wsX11_goes := goodIn_r _ [13, 14, 21, 22, 23, 24, 25, 26, 27, 28, 29, 30, 31, 32, 33, 34] (by decide +kernel) (by decide +kernel)
set_option maxRecDepth 20000 in
theorem gX11_setLevels_X11_goes : GoodIn wsX11_setLevels (wsV RX11 57 RX11 yX11_goes wsX11_goes) := goodIn_app (goodIn_of _ (by decide +kernel)) ggX11_setLevels_X11_goes
set_option maxRecDepth 20000 in
theorem ggX11_setLevels_X11_save : GoodIn wsX11_setLevels wsX11_save := goodIn_r _ [18, 19, 20, 1, 21, 22, 23, 24, 25, 26, 27, 28, 29, 30, 31, 32, 33, 34] (by decide +kernel) (by decide +kernel)
set_option maxRecDepth 20000 in
theorem gX11_setLevels_X11_save : GoodIn wsX11_setLevels (wsV RX11 61 RX11 yX11_save wsX11_save) := goodIn_app (goodIn_of _ (by decide +kernel)) ggX11_setLevels_X11_save
theorem dX11_setLevels_0 : decode cX11_setLevels 0 = .ok (.aload_n 0, 1) := by decide +kernel
theorem dX11_setLevels_1 : decode cX11_setLevels 1 = .ok (.iload_n 1, 1) := by decide +kernel
theorem dX11_setLevels_2 : decode cX11_setLevels 2 = .ok (.invokestatic 49, 3) := by decide +kernel
theorem dX11_setLevels_5 : decode cX11_setLevels 5 = .ok (.ifCond .eq 14, 3) := by decide +kernel
theorem dX11_setLevels_8 : decode cX11_setLevels 8 = .ok (.iload_n 2, 1) := by decide +kernel
theorem dX11_setLevels_9 : decode cX11_setLevels 9 = .ok (.invokestatic 49, 3) := by decide +kernel
theorem dX11_setLevels_12 : decode cX11_setLevels 12 = .ok (.ifCond .eq 7, 3) := by decide +kernel
theorem dX11_setLevels_15 : decode cX11_setLevels 15 = .ok (.iconst 1, 1) := by decide +kernel
theorem dX11_setLevels_16 : decode cX11_setLevels 16 = .ok (.goto 4, 3) := by decide +kernel
theorem dX11_setLevels_19 : decode cX11_setLevels 19 = .ok (.iconst 0, 1) := by decide +kernel
theorem dX11_setLevels_20 : decode cX11_setLevels 20 = .ok (.iconst 1, 1) := by decide +kernel
theorem dX11_setLevels_21 : decode cX11_setLevels 21 = .ok (.invokevirtual 57, 3) := by decide +kernel
theorem dX11_setLevels_24 : decode cX11_setLevels 24 = .ok (.ifCond .ne 5, 3) := by decide +kernel
theorem dX11_setLevels_27 : decode cX11_setLevels 27 = .ok (.iconst 0, 1) := by decide +kernel
theorem dX11_setLevels_28 : decode cX11_setLevels 28 = .ok (.ireturn, 1) := by decide +kernel
theorem dX11_setLevels_29 : decode cX11_setLevels 29 = .ok (.aload_n 0, 1) := by decide +kernel
theorem dX11_setLevels_30 : decode cX11_setLevels 30 = .ok (.invokevirtual 61, 3) := by decide +kernel
theorem dX11_setLevels_33 : decode cX11_setLevels 33 = .ok (.aload_n 0, 1) := by decide +kernel
theorem dX11_setLevels_34 : decode cX11_setLevels 34 = .ok (.getfield 7, 3) := by decide +kernel
theorem dX11_setLevels_37 : decode cX11_setLevels 37 = .ok (.iconst 2, 1) := by decide +kernel
theorem dX11_setLevels_38 : decode cX11_setLevels 38 = .ok (.iaload, 1) := by decide +kernel
theorem dX11_setLevels_39 : decode cX11_setLevels 39 = .ok (.istore_n 3, 1) := by decide +kernel
theorem dX11_setLevels_40 : decode cX11_setLevels 40 = .ok (.aload_n 0, 1) := by decide +kernel
theorem dX11_setLevels_41 : decode cX11_setLevels 41 = .ok (.getfield 7, 3) := by decide +kernel
theorem dX11_setLevels_44 : decode cX11_setLevels 44 = .ok (.iconst 1, 1) := by decide +kernel
theorem dX11_setLevels_45 : decode cX11_setLevels 45 = .ok (.iload_n 1, 1) := by decide +kernel
theorem dX11_setLevels_46 : decode cX11_setLevels 46 = .ok (.iastore, 1) := by decide +kernel
theorem dX11_setLevels_47 : decode cX11_setLevels 47 = .ok (.aload_n 0, 1) := by decide +kernel
theorem dX11_setLevels_48 : decode cX11_setLevels 48 = .ok (.getfield 7, 3) := by decide +kernel
theorem dX11_setLevels_51 : decode cX11_setLevels 51 = .ok (.iconst 2, 1) := by decide +kernel
theorem dX11_setLevels_52 : decode cX11_setLevels 52 = .ok (.iload_n 2, 1) := by decide +kernel
theorem dX11_setLevels_53 : decode cX11_setLevels 53 = .ok (.iastore, 1) := by decide +kernel
theorem dX11_setLevels_54 : decode cX11_setLevels 54 = .ok (.iload_n 3, 1) := by decide +kernel
theorem dX11_setLevels_55 : decode cX11_setLevels 55 = .ok (.ireturn, 1) := by decide +kernel
set_option maxRecDepth 20000 in
theorem ggX11_setMask_X11_isChannel : GoodIn wsX11_setMask wsX11_isChannel := goodIn_r _ [5, 6, 7, 8, 4, 9] (by decide +kernel) (by decide +kernel)
set_option maxRecDepth 20000 in
theorem gX11_setMask_X11_isChannel : GoodIn wsX11_setMask (va_wsS RX11 45 yX11_isChannel wsX11_isChannel) := goodIn_app (goodIn_of _ (by decide +kernel)) ggX11_setMask_X11_isChannel
set_option maxRecDepth 20000 in
theorem ggX11_setMask_X11_isLevel : GoodIn wsX11_setMask wsX11_isLevel := goodIn_r _ [12, 13, 7, 8, 4, 9] (by decide +kernel) (by decide +kernel)
set_option maxRecDepth 20000 in
theorem gX11_setMask_X11_isLevel : GoodIn wsX11_setMask (va_wsS RX11 49 yX11_isLevel wsX11_isLevel) := goodIn_app (goodIn_of _ (by decide +kernel)) ggX11_setMask_X11_isLevel
set_option maxRecDepth 20000 in
theorem ggX11_setMask_X11_goes : GoodIn wsX11_setMask wsX11_goes := goodIn_r _ [17, 18, 25, 26, 27, 28, 29, 30, 31, 32, 33, 34, 35, 36, 37, 38] (by decide +kernel) (by decide +kernel)
set_option maxRecDepth 20000 in
theorem gX11_setMask_X11_goes : GoodIn wsX11_setMask (wsV RX11 57 RX11 yX11_goes wsX11_goes) := goodIn_app (goodIn_of _ (by decide +kernel)) ggX11_setMask_X11_goes
set_option maxRecDepth 20000 in
theorem ggX11_setMask_X11_save : GoodIn wsX11_setMask wsX11_save := goodIn_r _ [22, 23, 24, 1, 25, 26, 27, 28, 29, 30, 31, 32, 33, 34, 35, 36, 37, 38] (by decide +kernel) (by decide +kernel)
set_option maxRecDepth 20000 in
theorem gX11_setMask_X11_save : GoodIn wsX11_setMask (wsV RX11 61 RX11 yX11_save wsX11_save) := goodIn_app (goodIn_of _ (by decide +kernel)) ggX11_setMask_X11_save
theorem dX11_setMask_0 : decode cX11_setMask 0 = .ok (.aload_n 0, 1) := by decide +kernel
theorem dX11_setMask_1 : decode cX11_setMask 1 = .ok (.iload_n 1, 1) := by decide +kernel
theorem dX11_setMask_2 : decode cX11_setMask 2 = .ok (.invokestatic 45, 3) := by decide +kernel
theorem dX11_setMask_5 : decode cX11_setMask 5 = .ok (.ifCond .eq 19, 3) := by decide +kernel
theorem dX11_setMask_8 : decode cX11_setMask 8 = .ok (.iload_n 2, 1) := by decide +kernel
theorem dX11_setMask_9 : decode cX11_setMask 9 = .ok (.invokestatic 45, 3) := by decide +kernel
theorem dX11_setMask_12 : decode cX11_setMask 12 = .ok (.ifCond .eq 12, 3) := by decide +kernel
theorem dX11_setMask_15 : decode cX11_setMask 15 = .ok (.iload_n 1, 1) := by decide +kernel
theorem dX11_setMask_16 : decode cX11_setMask 16 = .ok (.iload_n 2, 1) := by decide +kernel
theorem dX11_setMask_17 : decode cX11_setMask 17 = .ok (.if_icmp .gt 7, 3) := by decide +kernel
theorem dX11_setMask_20 : decode cX11_setMask 20 = .ok (.iconst 1, 1) := by decide +kernel
theorem dX11_setMask_21 : decode cX11_setMask 21 = .ok (.goto 4, 3) := by decide +kernel
theorem dX11_setMask_24 : decode cX11_setMask 24 = .ok (.iconst 0, 1) := by decide +kernel
theorem dX11_setMask_25 : decode cX11_setMask 25 = .ok (.iload_n 3, 1) := by decide +kernel
theorem dX11_setMask_26 : decode cX11_setMask 26 = .ok (.invokestatic 49, 3) := by decide +kernel
theorem dX11_setMask_29 : decode cX11_setMask 29 = .ok (.invokevirtual 57, 3) := by decide +kernel
theorem dX11_setMask_32 : decode cX11_setMask 32 = .ok (.ifCond .ne 5, 3) := by decide +kernel
theorem dX11_setMask_35 : decode cX11_setMask 35 = .ok (.iconst 0, 1) := by decide +kernel
theorem dX11_setMask_36 : decode cX11_setMask 36 = .ok (.ireturn, 1) := by decide +kernel
theorem dX11_setMask_37 : decode cX11_setMask 37 = .ok (.aload_n 0, 1) := by decide +kernel
theorem dX11_setMask_38 : decode cX11_setMask 38 = .ok (.invokevirtual 61, 3) := by decide +kernel
theorem dX11_setMask_41 : decode cX11_setMask 41 = .ok (.aload_n 0, 1) := by decide +kernel
theorem dX11_setMask_42 : decode cX11_setMask 42 = .ok (.getfield 7, 3) := by decide +kernel
theorem dX11_setMask_45 : decode cX11_setMask 45 = .ok (.bipush 106, 2) := by decide +kernel
theorem dX11_setMask_47 : decode cX11_setMask 47 = .ok (.iload_n 1, 1) := by decide +kernel
theorem dX11_setMask_48 : decode cX11_setMask 48 = .ok (.iadd, 1) := by decide +kernel
theorem dX11_setMask_49 : decode cX11_setMask 49 = .ok (.iaload, 1) := by decide +kernel
theorem dX11_setMask_50 : decode cX11_setMask 50 = .ok (.istore 4, 2) := by decide +kernel
theorem dX11_setMask_52 : decode cX11_setMask 52 = .ok (.iload_n 1, 1) := by decide +kernel
theorem dX11_setMask_53 : decode cX11_setMask 53 = .ok (.istore 5, 2) := by decide +kernel
theorem dX11_setMask_55 : decode cX11_setMask 55 = .ok (.iload 5, 2) := by decide +kernel
theorem dX11_setMask_57 : decode cX11_setMask 57 = .ok (.iload_n 2, 1) := by decide +kernel
theorem dX11_setMask_58 : decode cX11_setMask 58 = .ok (.if_icmp .gt 20, 3) := by decide +kernel
theorem dX11_setMask_61 : decode cX11_setMask 61 = .ok (.aload_n 0, 1) := by decide +kernel
theorem dX11_setMask_62 : decode cX11_setMask 62 = .ok (.getfield 7, 3) := by decide +kernel
theorem dX11_setMask_65 : decode cX11_setMask 65 = .ok (.bipush 106, 2) := by decide +kernel
theorem dX11_setMask_67 : decode cX11_setMask 67 = .ok (.iload 5, 2) := by decide +kernel
theorem dX11_setMask_69 : decode cX11_setMask 69 = .ok (.iadd, 1) := by decide +kernel
theorem dX11_setMask_70 : decode cX11_setMask 70 = .ok (.iload_n 3, 1) := by decide +kernel
theorem dX11_setMask_71 : decode cX11_setMask 71 = .ok (.iastore, 1) := by decide +kernel
theorem dX11_setMask_72 : decode cX11_setMask 72 = .ok (.iinc 5 1, 3) := by decide +kernel
theorem dX11_setMask_75 : decode cX11_setMask 75 = .ok (.goto (-20), 3) := by decide +kernel
theorem dX11_setMask_78 : decode cX11_setMask 78 = .ok (.iload 4, 2) := by decide +kernel
theorem dX11_setMask_80 : decode cX11_setMask 80 = .ok (.ireturn, 1) := by decide +kernel
set_option maxRecDepth 20000 in
theorem ggX11_setHops_X11_in : GoodIn wsX11_setHops wsX11_in := goodIn_r _ [7] (by decide +kernel) (by decide +kernel)
set_option maxRecDepth 20000 in
theorem gX11_setHops_X11_in : GoodIn wsX11_setHops (va_wsS RX11 37 yX11_in wsX11_in) := goodIn_app (goodIn_of _ (by decide +kernel)) ggX11_setHops_X11_in
set_option maxRecDepth 20000 in
theorem ggX11_setHops_X11_goes : GoodIn wsX11_setHops wsX11_goes := goodIn_r _ [11, 12, 19, 20, 21, 22, 23, 24, 25, 26, 27, 28, 29, 30, 31, 32] (by decide +kernel) (by decide +kernel)
set_option maxRecDepth 20000 in
theorem gX11_setHops_X11_goes : GoodIn wsX11_setHops (wsV RX11 57 RX11 yX11_goes wsX11_goes) := goodIn_app (goodIn_of _ (by decide +kernel)) ggX11_setHops_X11_goes
set_option maxRecDepth 20000 in
theorem ggX11_setHops_X11_save : GoodIn wsX11_setHops wsX11_save := goodIn_r _ [16, 17, 18, 3, 19, 20, 21, 22, 23, 24, 25, 26, 27, 28, 29, 30, 31, 32] (by decide +kernel) (by decide +kernel)
set_option maxRecDepth 20000 in
theorem gX11_setHops_X11_save : GoodIn wsX11_setHops (wsV RX11 61 RX11 yX11_save wsX11_save) := goodIn_app (goodIn_of _ (by decide +kernel)) ggX11_setHops_X11_save
theorem dX11_setHops_0 : decode cX11_setHops 0 = .ok (.aload_n 0, 1) := by decide +kernel
theorem dX11_setHops_1 : decode cX11_setHops 1 = .ok (.iload_n 1, 1) := by decide +kernel
theorem dX11_setHops_2 : decode cX11_setHops 2 = .ok (.i2l, 1) := by decide +kernel
theorem dX11_setHops_3 : decode cX11_setHops 3 = .ok (.lconst 1, 1) := by decide +kernel
theorem dX11_setHops_4 : decode cX11_setHops 4 = .ok (.ldc2_w 55, 3) := by decide +kernel
theorem dX11_setHops_7 : decode cX11_setHops 7 = .ok (.invokestatic 37, 3) := by decide +kernel
theorem dX11_setHops_10 : decode cX11_setHops 10 = .ok (.ifCond .eq 19, 3) := by decide +kernel
theorem dX11_setHops_13 : decode cX11_setHops 13 = .ok (.iload_n 2, 1) := by decide +kernel
theorem dX11_setHops_14 : decode cX11_setHops 14 = .ok (.i2l, 1) := by decide +kernel
theorem dX11_setHops_15 : decode cX11_setHops 15 = .ok (.lconst 0, 1) := by decide +kernel
theorem dX11_setHops_16 : decode cX11_setHops 16 = .ok (.ldc2_w 41, 3) := by decide +kernel
theorem dX11_setHops_19 : decode cX11_setHops 19 = .ok (.invokestatic 37, 3) := by decide +kernel
theorem dX11_setHops_22 : decode cX11_setHops 22 = .ok (.ifCond .eq 7, 3) := by decide +kernel
theorem dX11_setHops_25 : decode cX11_setHops 25 = .ok (.iconst 1, 1) := by decide +kernel
theorem dX11_setHops_26 : decode cX11_setHops 26 = .ok (.goto 4, 3) := by decide +kernel
theorem dX11_setHops_29 : decode cX11_setHops 29 = .ok (.iconst 0, 1) := by decide +kernel
theorem dX11_setHops_30 : decode cX11_setHops 30 = .ok (.iconst 1, 1) := by decide +kernel
theorem dX11_setHops_31 : decode cX11_setHops 31 = .ok (.invokevirtual 57, 3) := by decide +kernel
theorem dX11_setHops_34 : decode cX11_setHops 34 = .ok (.ifCond .ne 5, 3) := by decide +kernel
theorem dX11_setHops_37 : decode cX11_setHops 37 = .ok (.iconst 0, 1) := by decide +kernel
theorem dX11_setHops_38 : decode cX11_setHops 38 = .ok (.ireturn, 1) := by decide +kernel
theorem dX11_setHops_39 : decode cX11_setHops 39 = .ok (.aload_n 0, 1) := by decide +kernel
theorem dX11_setHops_40 : decode cX11_setHops 40 = .ok (.invokevirtual 61, 3) := by decide +kernel
theorem dX11_setHops_43 : decode cX11_setHops 43 = .ok (.aload_n 0, 1) := by decide +kernel
theorem dX11_setHops_44 : decode cX11_setHops 44 = .ok (.getfield 7, 3) := by decide +kernel
theorem dX11_setHops_47 : decode cX11_setHops 47 = .ok (.iconst 3, 1) := by decide +kernel
theorem dX11_setHops_48 : decode cX11_setHops 48 = .ok (.iaload, 1) := by decide +kernel
theorem dX11_setHops_49 : decode cX11_setHops 49 = .ok (.istore_n 3, 1) := by decide +kernel
theorem dX11_setHops_50 : decode cX11_setHops 50 = .ok (.aload_n 0, 1) := by decide +kernel
theorem dX11_setHops_51 : decode cX11_setHops 51 = .ok (.getfield 7, 3) := by decide +kernel
theorem dX11_setHops_54 : decode cX11_setHops 54 = .ok (.iconst 3, 1) := by decide +kernel
theorem dX11_setHops_55 : decode cX11_setHops 55 = .ok (.iload_n 1, 1) := by decide +kernel
theorem dX11_setHops_56 : decode cX11_setHops 56 = .ok (.iastore, 1) := by decide +kernel
theorem dX11_setHops_57 : decode cX11_setHops 57 = .ok (.aload_n 0, 1) := by decide +kernel
theorem dX11_setHops_58 : decode cX11_setHops 58 = .ok (.getfield 7, 3) := by decide +kernel
theorem dX11_setHops_61 : decode cX11_setHops 61 = .ok (.iconst 4, 1) := by decide +kernel
theorem dX11_setHops_62 : decode cX11_setHops 62 = .ok (.iload_n 2, 1) := by decide +kernel
theorem dX11_setHops_63 : decode cX11_setHops 63 = .ok (.iastore, 1) := by decide +kernel
theorem dX11_setHops_64 : decode cX11_setHops 64 = .ok (.iload_n 3, 1) := by decide +kernel
theorem dX11_setHops_65 : decode cX11_setHops 65 = .ok (.ireturn, 1) := by decide +kernel
set_option maxRecDepth 20000 in
theorem ggX11_append_X11_in : GoodIn wsX11_append wsX11_in := goodIn_r _ [7] (by decide +kernel) (by decide +kernel)
set_option maxRecDepth 20000 in
theorem gX11_append_X11_in : GoodIn wsX11_append (va_wsS RX11 37 yX11_in wsX11_in) := goodIn_app (goodIn_of _ (by decide +kernel)) ggX11_append_X11_in
set_option maxRecDepth 20000 in
theorem ggX11_append_X11_goes : GoodIn wsX11_append wsX11_goes := goodIn_r _ [11, 12, 13, 14, 15, 16, 17, 18, 19, 20, 21, 22, 23, 24, 25, 26] (by decide +kernel) (by decide +kernel)
set_option maxRecDepth 20000 in
theorem gX11_append_X11_goes : GoodIn wsX11_append (wsV RX11 57 RX11 yX11_goes wsX11_goes) := goodIn_app (goodIn_of _ (by decide +kernel)) ggX11_append_X11_goes
theorem dX11_append_0 : decode cX11_append 0 = .ok (.aload_n 0, 1) := by decide +kernel
theorem dX11_append_1 : decode cX11_append 1 = .ok (.iload_n 1, 1) := by decide +kernel
theorem dX11_append_2 : decode cX11_append 2 = .ok (.i2l, 1) := by decide +kernel
theorem dX11_append_3 : decode cX11_append 3 = .ok (.lconst 0, 1) := by decide +kernel
theorem dX11_append_4 : decode cX11_append 4 = .ok (.ldc2_w 68, 3) := by decide +kernel
theorem dX11_append_7 : decode cX11_append 7 = .ok (.invokestatic 37, 3) := by decide +kernel
theorem dX11_append_10 : decode cX11_append 10 = .ok (.aload_n 0, 1) := by decide +kernel
theorem dX11_append_11 : decode cX11_append 11 = .ok (.getfield 70, 3) := by decide +kernel
theorem dX11_append_14 : decode cX11_append 14 = .ok (.bipush 100, 2) := by decide +kernel
theorem dX11_append_16 : decode cX11_append 16 = .ok (.if_icmp .ge 7, 3) := by decide +kernel
theorem dX11_append_19 : decode cX11_append 19 = .ok (.iconst 1, 1) := by decide +kernel
theorem dX11_append_20 : decode cX11_append 20 = .ok (.goto 4, 3) := by decide +kernel
theorem dX11_append_23 : decode cX11_append 23 = .ok (.iconst 0, 1) := by decide +kernel
theorem dX11_append_24 : decode cX11_append 24 = .ok (.invokevirtual 57, 3) := by decide +kernel
theorem dX11_append_27 : decode cX11_append 27 = .ok (.ifCond .ne 5, 3) := by decide +kernel
theorem dX11_append_30 : decode cX11_append 30 = .ok (.iconst 0, 1) := by decide +kernel
theorem dX11_append_31 : decode cX11_append 31 = .ok (.ireturn, 1) := by decide +kernel
theorem dX11_append_32 : decode cX11_append 32 = .ok (.aload_n 0, 1) := by decide +kernel
theorem dX11_append_33 : decode cX11_append 33 = .ok (.getfield 16, 3) := by decide +kernel
theorem dX11_append_36 : decode cX11_append 36 = .ok (.aload_n 0, 1) := by decide +kernel
theorem dX11_append_37 : decode cX11_append 37 = .ok (.getfield 70, 3) := by decide +kernel
theorem dX11_append_40 : decode cX11_append 40 = .ok (.iload_n 1, 1) := by decide +kernel
theorem dX11_append_41 : decode cX11_append 41 = .ok (.iastore, 1) := by decide +kernel
theorem dX11_append_42 : decode cX11_append 42 = .ok (.aload_n 0, 1) := by decide +kernel
theorem dX11_append_43 : decode cX11_append 43 = .ok (.dup, 1) := by decide +kernel
theorem dX11_append_44 : decode cX11_append 44 = .ok (.getfield 70, 3) := by decide +kernel
theorem dX11_append_47 : decode cX11_append 47 = .ok (.iconst 1, 1) := by decide +kernel
theorem dX11_append_48 : decode cX11_append 48 = .ok (.iadd, 1) := by decide +kernel
theorem dX11_append_49 : decode cX11_append 49 = .ok (.putfield 70, 3) := by decide +kernel
theorem dX11_append_52 : decode cX11_append 52 = .ok (.aload_n 0, 1) := by decide +kernel
theorem dX11_append_53 : decode cX11_append 53 = .ok (.getfield 70, 3) := by decide +kernel
theorem dX11_append_56 : decode cX11_append 56 = .ok (.ireturn, 1) := by decide +kernel
theorem dX11_clearText_0 : decode cX11_clearText 0 = .ok (.aload_n 0, 1) := by decide +kernel
theorem dX11_clearText_1 : decode cX11_clearText 1 = .ok (.iconst 0, 1) := by decide +kernel
theorem dX11_clearText_2 : decode cX11_clearText 2 = .ok (.putfield 28, 3) := by decide +kernel
theorem dX11_clearText_5 : decode cX11_clearText 5 = .ok (.aload_n 0, 1) := by decide +kernel
theorem dX11_clearText_6 : decode cX11_clearText 6 = .ok (.getfield 70, 3) := by decide +kernel
theorem dX11_clearText_9 : decode cX11_clearText 9 = .ok (.istore_n 1, 1) := by decide +kernel
theorem dX11_clearText_10 : decode cX11_clearText 10 = .ok (.aload_n 0, 1) := by decide +kernel
theorem dX11_clearText_11 : decode cX11_clearText 11 = .ok (.iconst 0, 1) := by decide +kernel
theorem dX11_clearText_12 : decode cX11_clearText 12 = .ok (.putfield 70, 3) := by decide +kernel
theorem dX11_clearText_15 : decode cX11_clearText 15 = .ok (.iload_n 1, 1) := by decide +kernel
theorem dX11_clearText_16 : decode cX11_clearText 16 = .ok (.ireturn, 1) := by decide +kernel
theorem dX11_here_0 : decode cX11_here 0 = .ok (.aload_n 0, 1) := by decide +kernel
theorem dX11_here_1 : decode cX11_here 1 = .ok (.getfield 73, 3) := by decide +kernel
theorem dX11_here_4 : decode cX11_here 4 = .ok (.aload_n 0, 1) := by decide +kernel
theorem dX11_here_5 : decode cX11_here 5 = .ok (.getfield 70, 3) := by decide +kernel
theorem dX11_here_8 : decode cX11_here 8 = .ok (.if_icmp .ge 15, 3) := by decide +kernel
theorem dX11_here_11 : decode cX11_here 11 = .ok (.aload_n 0, 1) := by decide +kernel
theorem dX11_here_12 : decode cX11_here 12 = .ok (.getfield 16, 3) := by decide +kernel
theorem dX11_here_15 : decode cX11_here 15 = .ok (.aload_n 0, 1) := by decide +kernel
theorem dX11_here_16 : decode cX11_here 16 = .ok (.getfield 73, 3) := by decide +kernel
theorem dX11_here_19 : decode cX11_here 19 = .ok (.iaload, 1) := by decide +kernel
theorem dX11_here_20 : decode cX11_here 20 = .ok (.goto 4, 3) := by decide +kernel
theorem dX11_here_23 : decode cX11_here 23 = .ok (.iconst (-1), 1) := by decide +kernel
theorem dX11_here_24 : decode cX11_here 24 = .ok (.ireturn, 1) := by decide +kernel
set_option maxRecDepth 20000 in
theorem ggX11_isFigure_X11_in : GoodIn wsX11_isFigure wsX11_in := goodIn_r _ [6] (by decide +kernel) (by decide +kernel)
set_option maxRecDepth 20000 in
theorem gX11_isFigure_X11_in : GoodIn wsX11_isFigure (va_wsS RX11 37 yX11_in wsX11_in) := goodIn_app (goodIn_of _ (by decide +kernel)) ggX11_isFigure_X11_in
theorem dX11_isFigure_0 : decode cX11_isFigure 0 = .ok (.iload_n 0, 1) := by decide +kernel
theorem dX11_isFigure_1 : decode cX11_isFigure 1 = .ok (.i2l, 1) := by decide +kernel
theorem dX11_isFigure_2 : decode cX11_isFigure 2 = .ok (.ldc2_w 76, 3) := by decide +kernel
theorem dX11_isFigure_5 : decode cX11_isFigure 5 = .ok (.ldc2_w 78, 3) := by decide +kernel
theorem dX11_isFigure_8 : decode cX11_isFigure 8 = .ok (.invokestatic 37, 3) := by decide +kernel
theorem dX11_isFigure_11 : decode cX11_isFigure 11 = .ok (.ireturn, 1) := by decide +kernel
set_option maxRecDepth 20000 in
theorem ggX11_skips_X11_here : GoodIn wsX11_skips wsX11_here := goodIn_r _ [6, 1, 7, 8, 9, 10, 11, 12, 13, 14, 15, 16, 17, 18, 19, 20, 21, 22] (by decide +kernel) (by decide +kernel)
set_option maxRecDepth 20000 in
theorem gX11_skips_X11_here : GoodIn wsX11_skips (wsV RX11 80 RX11 yX11_here wsX11_here) := goodIn_app (goodIn_of _ (by decide +kernel)) ggX11_skips_X11_here
theorem dX11_skips_0 : decode cX11_skips 0 = .ok (.aload_n 0, 1) := by decide +kernel
theorem dX11_skips_1 : decode cX11_skips 1 = .ok (.invokevirtual 80, 3) := by decide +kernel
theorem dX11_skips_4 : decode cX11_skips 4 = .ok (.bipush 32, 2) := by decide +kernel
theorem dX11_skips_6 : decode cX11_skips 6 = .ok (.if_icmp .ne 16, 3) := by decide +kernel
theorem dX11_skips_9 : decode cX11_skips 9 = .ok (.aload_n 0, 1) := by decide +kernel
theorem dX11_skips_10 : decode cX11_skips 10 = .ok (.dup, 1) := by decide +kernel
theorem dX11_skips_11 : decode cX11_skips 11 = .ok (.getfield 73, 3) := by decide +kernel
theorem dX11_skips_14 : decode cX11_skips 14 = .ok (.iconst 1, 1) := by decide +kernel
theorem dX11_skips_15 : decode cX11_skips 15 = .ok (.iadd, 1) := by decide +kernel
theorem dX11_skips_16 : decode cX11_skips 16 = .ok (.putfield 73, 3) := by decide +kernel
theorem dX11_skips_19 : decode cX11_skips 19 = .ok (.goto (-19), 3) := by decide +kernel
theorem dX11_skips_22 : decode cX11_skips 22 = .ok (.return_, 1) := by decide +kernel
set_option maxRecDepth 20000 in
theorem ggX11_number_X11_here : GoodIn wsX11_number wsX11_here := goodIn_r _ [6, 1, 7, 8, 17, 18, 19, 20, 21, 22, 23, 24, 25, 26, 27, 28, 29, 30] (by decide +kernel) (by decide +kernel)
set_option maxRecDepth 20000 in
theorem gX11_number_X11_here : GoodIn wsX11_number (wsV RX11 80 RX11 yX11_here wsX11_here) := goodIn_app (goodIn_of _ (by decide +kernel)) ggX11_number_X11_here
set_option maxRecDepth 20000 in
theorem ggX11_number_X11_isFigure : GoodIn wsX11_number wsX11_isFigure := goodIn_r _ [11, 12, 13, 14, 15, 5, 16] (by decide +kernel) (by decide +kernel)
set_option maxRecDepth 20000 in
theorem gX11_number_X11_isFigure : GoodIn wsX11_number (va_wsS RX11 84 yX11_isFigure wsX11_isFigure) := goodIn_app (goodIn_of _ (by decide +kernel)) ggX11_number_X11_isFigure
set_option maxRecDepth 20000 in
theorem ggX11_number_X11_in : GoodIn wsX11_number wsX11_in := goodIn_r _ [16] (by decide +kernel) (by decide +kernel)
set_option maxRecDepth 20000 in
theorem gX11_number_X11_in : GoodIn wsX11_number (va_wsS RX11 37 yX11_in wsX11_in) := goodIn_app (goodIn_of _ (by decide +kernel)) ggX11_number_X11_in
theorem dX11_number_0 : decode cX11_number 0 = .ok (.aload_n 0, 1) := by decide +kernel
theorem dX11_number_1 : decode cX11_number 1 = .ok (.getfield 73, 3) := by decide +kernel
theorem dX11_number_4 : decode cX11_number 4 = .ok (.istore_n 3, 1) := by decide +kernel
theorem dX11_number_5 : decode cX11_number 5 = .ok (.iconst 0, 1) := by decide +kernel
theorem dX11_number_6 : decode cX11_number 6 = .ok (.istore 4, 2) := by decide +kernel
theorem dX11_number_8 : decode cX11_number 8 = .ok (.aload_n 0, 1) := by decide +kernel
theorem dX11_number_9 : decode cX11_number 9 = .ok (.invokevirtual 80, 3) := by decide +kernel
theorem dX11_number_12 : decode cX11_number 12 = .ok (.invokestatic 84, 3) := by decide +kernel
theorem dX11_number_15 : decode cX11_number 15 = .ok (.ifCond .eq 41, 3) := by decide +kernel
theorem dX11_number_18 : decode cX11_number 18 = .ok (.aload_n 0, 1) := by decide +kernel
theorem dX11_number_19 : decode cX11_number 19 = .ok (.getfield 73, 3) := by decide +kernel
theorem dX11_number_22 : decode cX11_number 22 = .ok (.iload_n 3, 1) := by decide +kernel
theorem dX11_number_23 : decode cX11_number 23 = .ok (.isub, 1) := by decide +kernel
theorem dX11_number_24 : decode cX11_number 24 = .ok (.iconst 2, 1) := by decide +kernel
theorem dX11_number_25 : decode cX11_number 25 = .ok (.if_icmp .ge 31, 3) := by decide +kernel
theorem dX11_number_28 : decode cX11_number 28 = .ok (.bipush 10, 2) := by decide +kernel
theorem dX11_number_30 : decode cX11_number 30 = .ok (.iload 4, 2) := by decide +kernel
theorem dX11_number_32 : decode cX11_number 32 = .ok (.imul, 1) := by decide +kernel
theorem dX11_number_33 : decode cX11_number 33 = .ok (.aload_n 0, 1) := by decide +kernel
theorem dX11_number_34 : decode cX11_number 34 = .ok (.invokevirtual 80, 3) := by decide +kernel
theorem dX11_number_37 : decode cX11_number 37 = .ok (.iadd, 1) := by decide +kernel
theorem dX11_number_38 : decode cX11_number 38 = .ok (.bipush 48, 2) := by decide +kernel
theorem dX11_number_40 : decode cX11_number 40 = .ok (.isub, 1) := by decide +kernel
theorem dX11_number_41 : decode cX11_number 41 = .ok (.istore 4, 2) := by decide +kernel
theorem dX11_number_43 : decode cX11_number 43 = .ok (.aload_n 0, 1) := by decide +kernel
theorem dX11_number_44 : decode cX11_number 44 = .ok (.dup, 1) := by decide +kernel
theorem dX11_number_45 : decode cX11_number 45 = .ok (.getfield 73, 3) := by decide +kernel
theorem dX11_number_48 : decode cX11_number 48 = .ok (.iconst 1, 1) := by decide +kernel
theorem dX11_number_49 : decode cX11_number 49 = .ok (.iadd, 1) := by decide +kernel
theorem dX11_number_50 : decode cX11_number 50 = .ok (.putfield 73, 3) := by decide +kernel
theorem dX11_number_53 : decode cX11_number 53 = .ok (.goto (-45), 3) := by decide +kernel
theorem dX11_number_56 : decode cX11_number 56 = .ok (.aload_n 0, 1) := by decide +kernel
theorem dX11_number_57 : decode cX11_number 57 = .ok (.getfield 73, 3) := by decide +kernel
theorem dX11_number_60 : decode cX11_number 60 = .ok (.iload_n 3, 1) := by decide +kernel
theorem dX11_number_61 : decode cX11_number 61 = .ok (.if_icmp .eq 13, 3) := by decide +kernel
theorem dX11_number_64 : decode cX11_number 64 = .ok (.aload_n 0, 1) := by decide +kernel
theorem dX11_number_65 : decode cX11_number 65 = .ok (.invokevirtual 80, 3) := by decide +kernel
theorem dX11_number_68 : decode cX11_number 68 = .ok (.invokestatic 84, 3) := by decide +kernel
theorem dX11_number_71 : decode cX11_number 71 = .ok (.ifCond .eq 5, 3) := by decide +kernel
theorem dX11_number_74 : decode cX11_number 74 = .ok (.iconst (-1), 1) := by decide +kernel
theorem dX11_number_75 : decode cX11_number 75 = .ok (.ireturn, 1) := by decide +kernel
theorem dX11_number_76 : decode cX11_number 76 = .ok (.aload_n 0, 1) := by decide +kernel
theorem dX11_number_77 : decode cX11_number 77 = .ok (.iload 4, 2) := by decide +kernel
theorem dX11_number_79 : decode cX11_number 79 = .ok (.i2l, 1) := by decide +kernel
theorem dX11_number_80 : decode cX11_number 80 = .ok (.iload_n 1, 1) := by decide +kernel
theorem dX11_number_81 : decode cX11_number 81 = .ok (.i2l, 1) := by decide +kernel
theorem dX11_number_82 : decode cX11_number 82 = .ok (.iload_n 2, 1) := by decide +kernel
theorem dX11_number_83 : decode cX11_number 83 = .ok (.i2l, 1) := by decide +kernel
theorem dX11_number_84 : decode cX11_number 84 = .ok (.invokestatic 37, 3) := by decide +kernel
theorem dX11_number_87 : decode cX11_number 87 = .ok (.ifCond .eq 10, 3) := by decide +kernel
theorem dX11_number_90 : decode cX11_number 90 = .ok (.aload_n 0, 1) := by decide +kernel
theorem dX11_number_91 : decode cX11_number 91 = .ok (.getfield 73, 3) := by decide +kernel
theorem dX11_number_94 : decode cX11_number 94 = .ok (.goto 4, 3) := by decide +kernel
theorem dX11_number_97 : decode cX11_number 97 = .ok (.iload_n 3, 1) := by decide +kernel
theorem dX11_number_98 : decode cX11_number 98 = .ok (.putfield 73, 3) := by decide +kernel
theorem dX11_number_101 : decode cX11_number 101 = .ok (.iload 4, 2) := by decide +kernel
theorem dX11_number_103 : decode cX11_number 103 = .ok (.i2l, 1) := by decide +kernel
theorem dX11_number_104 : decode cX11_number 104 = .ok (.iload_n 1, 1) := by decide +kernel
theorem dX11_number_105 : decode cX11_number 105 = .ok (.i2l, 1) := by decide +kernel
theorem dX11_number_106 : decode cX11_number 106 = .ok (.iload_n 2, 1) := by decide +kernel
theorem dX11_number_107 : decode cX11_number 107 = .ok (.i2l, 1) := by decide +kernel
theorem dX11_number_108 : decode cX11_number 108 = .ok (.invokestatic 37, 3) := by decide +kernel
theorem dX11_number_111 : decode cX11_number 111 = .ok (.ifCond .eq 8, 3) := by decide +kernel
theorem dX11_number_114 : decode cX11_number 114 = .ok (.iload 4, 2) := by decide +kernel
theorem dX11_number_116 : decode cX11_number 116 = .ok (.goto 4, 3) := by decide +kernel
theorem dX11_number_119 : decode cX11_number 119 = .ok (.iconst (-1), 1) := by decide +kernel
theorem dX11_number_120 : decode cX11_number 120 = .ok (.ireturn, 1) := by decide +kernel
set_option maxRecDepth 20000 in
theorem ggX11_passes_X11_here : GoodIn wsX11_passes wsX11_here := goodIn_r _ [6, 1, 7, 8, 9, 10, 11, 12, 13, 14, 15, 16, 17, 18, 19, 20, 21, 22] (by decide +kernel) (by decide +kernel)
set_option maxRecDepth 20000 in
theorem gX11_passes_X11_here : GoodIn wsX11_passes (wsV RX11 80 RX11 yX11_here wsX11_here) := goodIn_app (goodIn_of _ (by decide +kernel)) ggX11_passes_X11_here
theorem dX11_passes_0 : decode cX11_passes 0 = .ok (.aload_n 0, 1) := by decide +kernel
theorem dX11_passes_1 : decode cX11_passes 1 = .ok (.invokevirtual 80, 3) := by decide +kernel
theorem dX11_passes_4 : decode cX11_passes 4 = .ok (.iload_n 1, 1) := by decide +kernel
theorem dX11_passes_5 : decode cX11_passes 5 = .ok (.if_icmp .ne 7, 3) := by decide +kernel
theorem dX11_passes_8 : decode cX11_passes 8 = .ok (.iconst 1, 1) := by decide +kernel
theorem dX11_passes_9 : decode cX11_passes 9 = .ok (.goto 4, 3) := by decide +kernel
theorem dX11_passes_12 : decode cX11_passes 12 = .ok (.iconst 0, 1) := by decide +kernel
theorem dX11_passes_13 : decode cX11_passes 13 = .ok (.istore_n 2, 1) := by decide +kernel
theorem dX11_passes_14 : decode cX11_passes 14 = .ok (.aload_n 0, 1) := by decide +kernel
theorem dX11_passes_15 : decode cX11_passes 15 = .ok (.dup, 1) := by decide +kernel
theorem dX11_passes_16 : decode cX11_passes 16 = .ok (.getfield 73, 3) := by decide +kernel
theorem dX11_passes_19 : decode cX11_passes 19 = .ok (.iload_n 2, 1) := by decide +kernel
theorem dX11_passes_20 : decode cX11_passes 20 = .ok (.ifCond .eq 7, 3) := by decide +kernel
theorem dX11_passes_23 : decode cX11_passes 23 = .ok (.iconst 1, 1) := by decide +kernel
theorem dX11_passes_24 : decode cX11_passes 24 = .ok (.goto 4, 3) := by decide +kernel
theorem dX11_passes_27 : decode cX11_passes 27 = .ok (.iconst 0, 1) := by decide +kernel
theorem dX11_passes_28 : decode cX11_passes 28 = .ok (.iadd, 1) := by decide +kernel
theorem dX11_passes_29 : decode cX11_passes 29 = .ok (.putfield 73, 3) := by decide +kernel
theorem dX11_passes_32 : decode cX11_passes 32 = .ok (.iload_n 2, 1) := by decide +kernel
theorem dX11_passes_33 : decode cX11_passes 33 = .ok (.ireturn, 1) := by decide +kernel
set_option maxRecDepth 20000 in
theorem ggX11_readsStep_X11_here : GoodIn wsX11_readsStep wsX11_here := goodIn_r _ [7, 8, 9, 10, 27, 28, 29, 30, 31, 32, 33, 34, 35, 36, 37, 38, 39, 40] (by decide +kernel) (by decide +kernel)
set_option maxRecDepth 20000 in
theorem gX11_readsStep_X11_here : GoodIn wsX11_readsStep (wsV RX11 80 RX11 yX11_here wsX11_here) := goodIn_app (goodIn_of _ (by decide +kernel)) ggX11_readsStep_X11_here
set_option maxRecDepth 20000 in
theorem ggX11_readsStep_X11_isFigure : GoodIn wsX11_readsStep wsX11_isFigure := goodIn_r _ [13, 14, 15, 16, 17, 6, 18] (by decide +kernel) (by decide +kernel)
set_option maxRecDepth 20000 in
theorem gX11_readsStep_X11_isFigure : GoodIn wsX11_readsStep (va_wsS RX11 84 yX11_isFigure wsX11_isFigure) := goodIn_app (goodIn_of _ (by decide +kernel)) ggX11_readsStep_X11_isFigure
set_option maxRecDepth 20000 in
theorem ggX11_readsStep_X11_number : GoodIn wsX11_readsStep wsX11_number := goodIn_r _ [22, 8, 3, 4, 5, 6, 7, 9, 10, 11, 12, 13, 14, 15, 16, 17, 18, 27, 28, 29, 30, 31, 32, 33, 34, 35, 36, 37, 38, 39, 40] (by decide +kernel) (by decide +kernel)
set_option maxRecDepth 20000 in
theorem gX11_readsStep_X11_number : GoodIn wsX11_readsStep (wsV RX11 90 RX11 yX11_number wsX11_number) := goodIn_app (goodIn_of _ (by decide +kernel)) ggX11_readsStep_X11_number
set_option maxRecDepth 20000 in
theorem ggX11_readsStep_X11_passes : GoodIn wsX11_readsStep wsX11_passes := goodIn_r _ [26, 8, 3, 4, 5, 6, 7, 9, 10, 27, 28, 29, 30, 31, 32, 33, 34, 35, 36, 37, 38, 39, 40] (by decide +kernel) (by decide +kernel)
set_option maxRecDepth 20000 in
theorem gX11_readsStep_X11_passes : GoodIn wsX11_readsStep (wsV RX11 94 RX11 yX11_passes wsX11_passes) := goodIn_app (goodIn_of _ (by decide +kernel)) ggX11_readsStep_X11_passes
theorem dX11_readsStep_0 : decode cX11_readsStep 0 = .ok (.aload_n 0, 1) := by decide +kernel
theorem dX11_readsStep_1 : decode cX11_readsStep 1 = .ok (.getfield 87, 3) := by decide +kernel
theorem dX11_readsStep_4 : decode cX11_readsStep 4 = .ok (.bipush 12, 2) := by decide +kernel
theorem dX11_readsStep_6 : decode cX11_readsStep 6 = .ok (.if_icmp .ne 15, 3) := by decide +kernel
theorem dX11_readsStep_9 : decode cX11_readsStep 9 = .ok (.aload_n 0, 1) := by decide +kernel
theorem dX11_readsStep_10 : decode cX11_readsStep 10 = .ok (.invokevirtual 80, 3) := by decide +kernel
theorem dX11_readsStep_13 : decode cX11_readsStep 13 = .ok (.invokestatic 84, 3) := by decide +kernel
theorem dX11_readsStep_16 : decode cX11_readsStep 16 = .ok (.ifCond .eq 5, 3) := by decide +kernel
theorem dX11_readsStep_19 : decode cX11_readsStep 19 = .ok (.iconst 0, 1) := by decide +kernel
theorem dX11_readsStep_20 : decode cX11_readsStep 20 = .ok (.ireturn, 1) := by decide +kernel
theorem dX11_readsStep_21 : decode cX11_readsStep 21 = .ok (.aload_n 0, 1) := by decide +kernel
theorem dX11_readsStep_22 : decode cX11_readsStep 22 = .ok (.iconst 0, 1) := by decide +kernel
theorem dX11_readsStep_23 : decode cX11_readsStep 23 = .ok (.bipush 31, 2) := by decide +kernel
theorem dX11_readsStep_25 : decode cX11_readsStep 25 = .ok (.invokevirtual 90, 3) := by decide +kernel
theorem dX11_readsStep_28 : decode cX11_readsStep 28 = .ok (.istore_n 1, 1) := by decide +kernel
theorem dX11_readsStep_29 : decode cX11_readsStep 29 = .ok (.iload_n 1, 1) := by decide +kernel
theorem dX11_readsStep_30 : decode cX11_readsStep 30 = .ok (.iconst (-1), 1) := by decide +kernel
theorem dX11_readsStep_31 : decode cX11_readsStep 31 = .ok (.if_icmp .ne 5, 3) := by decide +kernel
theorem dX11_readsStep_34 : decode cX11_readsStep 34 = .ok (.iconst 0, 1) := by decide +kernel
theorem dX11_readsStep_35 : decode cX11_readsStep 35 = .ok (.ireturn, 1) := by decide +kernel
theorem dX11_readsStep_36 : decode cX11_readsStep 36 = .ok (.iload_n 1, 1) := by decide +kernel
theorem dX11_readsStep_37 : decode cX11_readsStep 37 = .ok (.istore_n 2, 1) := by decide +kernel
theorem dX11_readsStep_38 : decode cX11_readsStep 38 = .ok (.aload_n 0, 1) := by decide +kernel
theorem dX11_readsStep_39 : decode cX11_readsStep 39 = .ok (.bipush 45, 2) := by decide +kernel
theorem dX11_readsStep_41 : decode cX11_readsStep 41 = .ok (.invokevirtual 94, 3) := by decide +kernel
theorem dX11_readsStep_44 : decode cX11_readsStep 44 = .ok (.ifCond .eq 18, 3) := by decide +kernel
theorem dX11_readsStep_47 : decode cX11_readsStep 47 = .ok (.aload_n 0, 1) := by decide +kernel
theorem dX11_readsStep_48 : decode cX11_readsStep 48 = .ok (.iload_n 1, 1) := by decide +kernel
theorem dX11_readsStep_49 : decode cX11_readsStep 49 = .ok (.bipush 31, 2) := by decide +kernel
theorem dX11_readsStep_51 : decode cX11_readsStep 51 = .ok (.invokevirtual 90, 3) := by decide +kernel
theorem dX11_readsStep_54 : decode cX11_readsStep 54 = .ok (.istore_n 2, 1) := by decide +kernel
theorem dX11_readsStep_55 : decode cX11_readsStep 55 = .ok (.iload_n 2, 1) := by decide +kernel
theorem dX11_readsStep_56 : decode cX11_readsStep 56 = .ok (.iconst (-1), 1) := by decide +kernel
theorem dX11_readsStep_57 : decode cX11_readsStep 57 = .ok (.if_icmp .ne 5, 3) := by decide +kernel
theorem dX11_readsStep_60 : decode cX11_readsStep 60 = .ok (.iconst 0, 1) := by decide +kernel
theorem dX11_readsStep_61 : decode cX11_readsStep 61 = .ok (.ireturn, 1) := by decide +kernel
theorem dX11_readsStep_62 : decode cX11_readsStep 62 = .ok (.aload_n 0, 1) := by decide +kernel
theorem dX11_readsStep_63 : decode cX11_readsStep 63 = .ok (.bipush 58, 2) := by decide +kernel
theorem dX11_readsStep_65 : decode cX11_readsStep 65 = .ok (.invokevirtual 94, 3) := by decide +kernel
theorem dX11_readsStep_68 : decode cX11_readsStep 68 = .ok (.ifCond .ne 5, 3) := by decide +kernel
theorem dX11_readsStep_71 : decode cX11_readsStep 71 = .ok (.iconst 0, 1) := by decide +kernel
theorem dX11_readsStep_72 : decode cX11_readsStep 72 = .ok (.ireturn, 1) := by decide +kernel
theorem dX11_readsStep_73 : decode cX11_readsStep 73 = .ok (.aload_n 0, 1) := by decide +kernel
theorem dX11_readsStep_74 : decode cX11_readsStep 74 = .ok (.iconst 1, 1) := by decide +kernel
theorem dX11_readsStep_75 : decode cX11_readsStep 75 = .ok (.bipush 20, 2) := by decide +kernel
theorem dX11_readsStep_77 : decode cX11_readsStep 77 = .ok (.invokevirtual 90, 3) := by decide +kernel
theorem dX11_readsStep_80 : decode cX11_readsStep 80 = .ok (.istore_n 3, 1) := by decide +kernel
theorem dX11_readsStep_81 : decode cX11_readsStep 81 = .ok (.iload_n 3, 1) := by decide +kernel
theorem dX11_readsStep_82 : decode cX11_readsStep 82 = .ok (.iconst (-1), 1) := by decide +kernel
theorem dX11_readsStep_83 : decode cX11_readsStep 83 = .ok (.if_icmp .eq 12, 3) := by decide +kernel
theorem dX11_readsStep_86 : decode cX11_readsStep 86 = .ok (.aload_n 0, 1) := by decide +kernel
theorem dX11_readsStep_87 : decode cX11_readsStep 87 = .ok (.bipush 59, 2) := by decide +kernel
theorem dX11_readsStep_89 : decode cX11_readsStep 89 = .ok (.invokevirtual 94, 3) := by decide +kernel
theorem dX11_readsStep_92 : decode cX11_readsStep 92 = .ok (.ifCond .ne 5, 3) := by decide +kernel
theorem dX11_readsStep_95 : decode cX11_readsStep 95 = .ok (.iconst 0, 1) := by decide +kernel
theorem dX11_readsStep_96 : decode cX11_readsStep 96 = .ok (.ireturn, 1) := by decide +kernel
theorem dX11_readsStep_97 : decode cX11_readsStep 97 = .ok (.aload_n 0, 1) := by decide +kernel
theorem dX11_readsStep_98 : decode cX11_readsStep 98 = .ok (.getfield 19, 3) := by decide +kernel
theorem dX11_readsStep_101 : decode cX11_readsStep 101 = .ok (.iconst 3, 1) := by decide +kernel
theorem dX11_readsStep_102 : decode cX11_readsStep 102 = .ok (.aload_n 0, 1) := by decide +kernel
theorem dX11_readsStep_103 : decode cX11_readsStep 103 = .ok (.getfield 87, 3) := by decide +kernel
theorem dX11_readsStep_106 : decode cX11_readsStep 106 = .ok (.imul, 1) := by decide +kernel
theorem dX11_readsStep_107 : decode cX11_readsStep 107 = .ok (.iload_n 1, 1) := by decide +kernel
theorem dX11_readsStep_108 : decode cX11_readsStep 108 = .ok (.iastore, 1) := by decide +kernel
theorem dX11_readsStep_109 : decode cX11_readsStep 109 = .ok (.aload_n 0, 1) := by decide +kernel
theorem dX11_readsStep_110 : decode cX11_readsStep 110 = .ok (.getfield 19, 3) := by decide +kernel
theorem dX11_readsStep_113 : decode cX11_readsStep 113 = .ok (.iconst 3, 1) := by decide +kernel
theorem dX11_readsStep_114 : decode cX11_readsStep 114 = .ok (.aload_n 0, 1) := by decide +kernel
theorem dX11_readsStep_115 : decode cX11_readsStep 115 = .ok (.getfield 87, 3) := by decide +kernel
theorem dX11_readsStep_118 : decode cX11_readsStep 118 = .ok (.imul, 1) := by decide +kernel
theorem dX11_readsStep_119 : decode cX11_readsStep 119 = .ok (.iconst 1, 1) := by decide +kernel
theorem dX11_readsStep_120 : decode cX11_readsStep 120 = .ok (.iadd, 1) := by decide +kernel
