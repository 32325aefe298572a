set_option maxRecDepth 20000 in
theorem gX9_adopt_X9_isIn : GoodIn wsX9_adopt (va_wsS RX9 209 yX9_isIn wsX9_isIn) := goodIn_app (goodIn_of _ (by decide +kernel)) ggX9_adopt_X9_isIn
set_option maxRecDepth 20000 in
theorem ggX9_adopt_X0_renew : GoodIn wsX9_adopt wsX0_renew := goodIn_r _ [29, 30, 31, 32, 33, 34, 8, 35, 67, 68, 69] (by decide +kernel) (by decide +kernel)
set_option maxRecDepth 20000 in
theorem gX9_adopt_X0_renew : GoodIn wsX9_adopt (wsV RX9 145 RX0 yX0_renew wsX0_renew) := goodIn_app (goodIn_of _ (by decide +kernel)) ggX9_adopt_X0_renew
set_option maxRecDepth 20000 in
theorem ggX9_adopt_J13_bitCount_95d88 : GoodIn wsX9_adopt wsJ13_bitCount_95d88 := goodIn_r _ [39, 40, 41, 42] (by decide +kernel) (by decide +kernel)
set_option maxRecDepth 20000 in
theorem gX9_adopt_J13_bitCount_95d88 : GoodIn wsX9_adopt (va_wsS RX9 258 yJ13_bitCount_95d88 wsJ13_bitCount_95d88) := goodIn_app (goodIn_of _ (by decide +kernel)) ggX9_adopt_J13_bitCount_95d88
theorem dX9_adopt_0 : decode cX9_adopt 0 = .ok (.iload_n 1, 1) := by decide +kernel
theorem dX9_adopt_1 : decode cX9_adopt 1 = .ok (.invokestatic 124, 3) := by decide +kernel
theorem dX9_adopt_4 : decode cX9_adopt 4 = .ok (.aload_n 0, 1) := by decide +kernel
theorem dX9_adopt_5 : decode cX9_adopt 5 = .ok (.iload_n 1, 1) := by decide +kernel
theorem dX9_adopt_6 : decode cX9_adopt 6 = .ok (.invokevirtual 135, 3) := by decide +kernel
theorem dX9_adopt_9 : decode cX9_adopt 9 = .ok (.iconst 0, 1) := by decide +kernel
theorem dX9_adopt_10 : decode cX9_adopt 10 = .ok (.istore_n 2, 1) := by decide +kernel
theorem dX9_adopt_11 : decode cX9_adopt 11 = .ok (.iload_n 2, 1) := by decide +kernel
theorem dX9_adopt_12 : decode cX9_adopt 12 = .ok (.bipush 64, 2) := by decide +kernel
theorem dX9_adopt_14 : decode cX9_adopt 14 = .ok (.if_icmp .ge 45, 3) := by decide +kernel
theorem dX9_adopt_17 : decode cX9_adopt 17 = .ok (.aload_n 0, 1) := by decide +kernel
theorem dX9_adopt_18 : decode cX9_adopt 18 = .ok (.getfield 86, 3) := by decide +kernel
theorem dX9_adopt_21 : decode cX9_adopt 21 = .ok (.getfield 344, 3) := by decide +kernel
theorem dX9_adopt_24 : decode cX9_adopt 24 = .ok (.iload_n 2, 1) := by decide +kernel
theorem dX9_adopt_25 : decode cX9_adopt 25 = .ok (.invokestatic 209, 3) := by decide +kernel
theorem dX9_adopt_28 : decode cX9_adopt 28 = .ok (.ifCond .eq 25, 3) := by decide +kernel
theorem dX9_adopt_31 : decode cX9_adopt 31 = .ok (.aload_n 0, 1) := by decide +kernel
theorem dX9_adopt_32 : decode cX9_adopt 32 = .ok (.getfield 42, 3) := by decide +kernel
theorem dX9_adopt_35 : decode cX9_adopt 35 = .ok (.iload_n 1, 1) := by decide +kernel
theorem dX9_adopt_36 : decode cX9_adopt 36 = .ok (.aaload, 1) := by decide +kernel
theorem dX9_adopt_37 : decode cX9_adopt 37 = .ok (.getfield 142, 3) := by decide +kernel
theorem dX9_adopt_40 : decode cX9_adopt 40 = .ok (.iload_n 2, 1) := by decide +kernel
theorem dX9_adopt_41 : decode cX9_adopt 41 = .ok (.aload_n 0, 1) := by decide +kernel
theorem dX9_adopt_42 : decode cX9_adopt 42 = .ok (.getfield 86, 3) := by decide +kernel
theorem dX9_adopt_45 : decode cX9_adopt 45 = .ok (.getfield 345, 3) := by decide +kernel
theorem dX9_adopt_48 : decode cX9_adopt 48 = .ok (.iload_n 2, 1) := by decide +kernel
theorem dX9_adopt_49 : decode cX9_adopt 49 = .ok (.iaload, 1) := by decide +kernel
theorem dX9_adopt_50 : decode cX9_adopt 50 = .ok (.invokevirtual 145, 3) := by decide +kernel
theorem dX9_adopt_53 : decode cX9_adopt 53 = .ok (.iinc 2 1, 3) := by decide +kernel
theorem dX9_adopt_56 : decode cX9_adopt 56 = .ok (.goto (-45), 3) := by decide +kernel
theorem dX9_adopt_59 : decode cX9_adopt 59 = .ok (.aload_n 0, 1) := by decide +kernel
theorem dX9_adopt_60 : decode cX9_adopt 60 = .ok (.getfield 86, 3) := by decide +kernel
theorem dX9_adopt_63 : decode cX9_adopt 63 = .ok (.getfield 344, 3) := by decide +kernel
theorem dX9_adopt_66 : decode cX9_adopt 66 = .ok (.invokestatic 258, 3) := by decide +kernel
theorem dX9_adopt_69 : decode cX9_adopt 69 = .ok (.ireturn, 1) := by decide +kernel
theorem dX9_requireOpen_0 : decode cX9_requireOpen 0 = .ok (.aload_n 0, 1) := by decide +kernel
theorem dX9_requireOpen_1 : decode cX9_requireOpen 1 = .ok (.getfield 93, 3) := by decide +kernel
theorem dX9_requireOpen_4 : decode cX9_requireOpen 4 = .ok (.ifCond .ne 14, 3) := by decide +kernel
theorem dX9_requireOpen_7 : decode cX9_requireOpen 7 = .ok (.new 117, 3) := by decide +kernel
theorem dX9_requireOpen_10 : decode cX9_requireOpen 10 = .ok (.dup, 1) := by decide +kernel
theorem dX9_requireOpen_11 : decode cX9_requireOpen 11 = .ok (.ldc_w 350, 3) := by decide +kernel
theorem dX9_requireOpen_14 : decode cX9_requireOpen 14 = .ok (.invokespecial 121, 3) := by decide +kernel
theorem dX9_requireOpen_17 : decode cX9_requireOpen 17 = .ok (.athrow, 1) := by decide +kernel
theorem dX9_requireOpen_18 : decode cX9_requireOpen 18 = .ok (.return_, 1) := by decide +kernel
set_option maxRecDepth 20000 in
theorem ggX9_requireSlot_X9_requireIndex : GoodIn wsX9_requireSlot wsX9_requireIndex := goodIn_ca (goodIn_r _ [4, 5, 6] (by decide +kernel) (by decide +kernel)) (goodIn_sub (fun _ h => List.mem_cons_of_mem _ (List.mem_append_right _ h)) (by decide +kernel))
set_option maxRecDepth 20000 in
theorem gX9_requireSlot_X9_requireIndex : GoodIn wsX9_requireSlot (va_wsS RX9 288 yX9_requireIndex wsX9_requireIndex) := goodIn_app (goodIn_of _ (by decide +kernel)) ggX9_requireSlot_X9_requireIndex
theorem dX9_requireSlot_0 : decode cX9_requireSlot 0 = .ok (.iload_n 0, 1) := by decide +kernel
theorem dX9_requireSlot_1 : decode cX9_requireSlot 1 = .ok (.iconst 3, 1) := by decide +kernel
theorem dX9_requireSlot_2 : decode cX9_requireSlot 2 = .ok (.invokestatic 288, 3) := by decide +kernel
theorem dX9_requireSlot_5 : decode cX9_requireSlot 5 = .ok (.return_, 1) := by decide +kernel
theorem dX9_requireIndex_0 : decode cX9_requireIndex 0 = .ok (.iload_n 0, 1) := by decide +kernel
theorem dX9_requireIndex_1 : decode cX9_requireIndex 1 = .ok (.ifCond .lt 8, 3) := by decide +kernel
theorem dX9_requireIndex_4 : decode cX9_requireIndex 4 = .ok (.iload_n 0, 1) := by decide +kernel
theorem dX9_requireIndex_5 : decode cX9_requireIndex 5 = .ok (.iload_n 1, 1) := by decide +kernel
theorem dX9_requireIndex_6 : decode cX9_requireIndex 6 = .ok (.if_icmp .lt 14, 3) := by decide +kernel
theorem dX9_requireIndex_9 : decode cX9_requireIndex 9 = .ok (.new 229, 3) := by decide +kernel
theorem dX9_requireIndex_12 : decode cX9_requireIndex 12 = .ok (.dup, 1) := by decide +kernel
theorem dX9_requireIndex_13 : decode cX9_requireIndex 13 = .ok (.ldc_w 352, 3) := by decide +kernel
theorem dX9_requireIndex_16 : decode cX9_requireIndex 16 = .ok (.invokespecial 233, 3) := by decide +kernel
theorem dX9_requireIndex_19 : decode cX9_requireIndex 19 = .ok (.athrow, 1) := by decide +kernel
theorem dX9_requireIndex_20 : decode cX9_requireIndex 20 = .ok (.return_, 1) := by decide +kernel
theorem dX9_requireKey_0 : decode cX9_requireKey 0 = .ok (.iload_n 0, 1) := by decide +kernel
theorem dX9_requireKey_1 : decode cX9_requireKey 1 = .ok (.ifCond .lt 9, 3) := by decide +kernel
theorem dX9_requireKey_4 : decode cX9_requireKey 4 = .ok (.iload_n 0, 1) := by decide +kernel
theorem dX9_requireKey_5 : decode cX9_requireKey 5 = .ok (.bipush 64, 2) := by decide +kernel
theorem dX9_requireKey_7 : decode cX9_requireKey 7 = .ok (.if_icmp .lt 14, 3) := by decide +kernel
theorem dX9_requireKey_10 : decode cX9_requireKey 10 = .ok (.new 130, 3) := by decide +kernel
theorem dX9_requireKey_13 : decode cX9_requireKey 13 = .ok (.dup, 1) := by decide +kernel
theorem dX9_requireKey_14 : decode cX9_requireKey 14 = .ok (.ldc_w 354, 3) := by decide +kernel
theorem dX9_requireKey_17 : decode cX9_requireKey 17 = .ok (.invokespecial 134, 3) := by decide +kernel
theorem dX9_requireKey_20 : decode cX9_requireKey 20 = .ok (.athrow, 1) := by decide +kernel
theorem dX9_requireKey_21 : decode cX9_requireKey 21 = .ok (.return_, 1) := by decide +kernel
theorem dX9_requireWhat_0 : decode cX9_requireWhat 0 = .ok (.iload_n 0, 1) := by decide +kernel
theorem dX9_requireWhat_1 : decode cX9_requireWhat 1 = .ok (.ifCond .lt 8, 3) := by decide +kernel
theorem dX9_requireWhat_4 : decode cX9_requireWhat 4 = .ok (.iload_n 0, 1) := by decide +kernel
theorem dX9_requireWhat_5 : decode cX9_requireWhat 5 = .ok (.iload_n 1, 1) := by decide +kernel
theorem dX9_requireWhat_6 : decode cX9_requireWhat 6 = .ok (.if_icmp .lt 14, 3) := by decide +kernel
theorem dX9_requireWhat_9 : decode cX9_requireWhat 9 = .ok (.new 130, 3) := by decide +kernel
theorem dX9_requireWhat_12 : decode cX9_requireWhat 12 = .ok (.dup, 1) := by decide +kernel
theorem dX9_requireWhat_13 : decode cX9_requireWhat 13 = .ok (.ldc_w 356, 3) := by decide +kernel
theorem dX9_requireWhat_16 : decode cX9_requireWhat 16 = .ok (.invokespecial 134, 3) := by decide +kernel
theorem dX9_requireWhat_19 : decode cX9_requireWhat 19 = .ok (.athrow, 1) := by decide +kernel
theorem dX9_requireWhat_20 : decode cX9_requireWhat 20 = .ok (.return_, 1) := by decide +kernel
theorem dX9_requireActive_0 : decode cX9_requireActive 0 = .ok (.aload_n 0, 1) := by decide +kernel
theorem dX9_requireActive_1 : decode cX9_requireActive 1 = .ok (.getfield 42, 3) := by decide +kernel
theorem dX9_requireActive_4 : decode cX9_requireActive 4 = .ok (.iload_n 1, 1) := by decide +kernel
theorem dX9_requireActive_5 : decode cX9_requireActive 5 = .ok (.aaload, 1) := by decide +kernel
theorem dX9_requireActive_6 : decode cX9_requireActive 6 = .ok (.getfield 110, 3) := by decide +kernel
theorem dX9_requireActive_9 : decode cX9_requireActive 9 = .ok (.iconst 1, 1) := by decide +kernel
theorem dX9_requireActive_10 : decode cX9_requireActive 10 = .ok (.if_icmp .eq 14, 3) := by decide +kernel
theorem dX9_requireActive_13 : decode cX9_requireActive 13 = .ok (.new 117, 3) := by decide +kernel
theorem dX9_requireActive_16 : decode cX9_requireActive 16 = .ok (.dup, 1) := by decide +kernel
theorem dX9_requireActive_17 : decode cX9_requireActive 17 = .ok (.ldc_w 358, 3) := by decide +kernel
theorem dX9_requireActive_20 : decode cX9_requireActive 20 = .ok (.invokespecial 121, 3) := by decide +kernel
theorem dX9_requireActive_23 : decode cX9_requireActive 23 = .ok (.athrow, 1) := by decide +kernel
theorem dX9_requireActive_24 : decode cX9_requireActive 24 = .ok (.return_, 1) := by decide +kernel
theorem dX9_requireNotIdle_0 : decode cX9_requireNotIdle 0 = .ok (.aload_n 0, 1) := by decide +kernel
theorem dX9_requireNotIdle_1 : decode cX9_requireNotIdle 1 = .ok (.getfield 42, 3) := by decide +kernel
theorem dX9_requireNotIdle_4 : decode cX9_requireNotIdle 4 = .ok (.iload_n 1, 1) := by decide +kernel
theorem dX9_requireNotIdle_5 : decode cX9_requireNotIdle 5 = .ok (.aaload, 1) := by decide +kernel
theorem dX9_requireNotIdle_6 : decode cX9_requireNotIdle 6 = .ok (.getfield 110, 3) := by decide +kernel
theorem dX9_requireNotIdle_9 : decode cX9_requireNotIdle 9 = .ok (.ifCond .ne 14, 3) := by decide +kernel
theorem dX9_requireNotIdle_12 : decode cX9_requireNotIdle 12 = .ok (.new 117, 3) := by decide +kernel
theorem dX9_requireNotIdle_15 : decode cX9_requireNotIdle 15 = .ok (.dup, 1) := by decide +kernel
theorem dX9_requireNotIdle_16 : decode cX9_requireNotIdle 16 = .ok (.ldc_w 360, 3) := by decide +kernel
theorem dX9_requireNotIdle_19 : decode cX9_requireNotIdle 19 = .ok (.invokespecial 121, 3) := by decide +kernel
theorem dX9_requireNotIdle_22 : decode cX9_requireNotIdle 22 = .ok (.athrow, 1) := by decide +kernel
theorem dX9_requireNotIdle_23 : decode cX9_requireNotIdle 23 = .ok (.return_, 1) := by decide +kernel
set_option maxRecDepth 20000 in
theorem ggX9_requireInView_X9_isInView : GoodIn wsX9_requireInView wsX9_isInView := goodIn_r _ [7, 8, 9, 10, 11, 12, 13, 14, 15, 6, 16, 17, 18, 19, 20, 21, 22, 23, 24, 25, 26, 27, 28, 29, 30, 31, 32, 33, 34, 35, 36, 37, 38, 39, 40, 41, 42, 43, 44, 45] (by decide +kernel) (by decide +kernel)
set_option maxRecDepth 20000 in
theorem gX9_requireInView_X9_isInView : GoodIn wsX9_requireInView (wsV RX9 138 RX9 yX9_isInView wsX9_isInView) := goodIn_app (goodIn_of _ (by decide +kernel)) ggX9_requireInView_X9_isInView
theorem dX9_requireInView_0 : decode cX9_requireInView 0 = .ok (.aload_n 0, 1) := by decide +kernel
theorem dX9_requireInView_1 : decode cX9_requireInView 1 = .ok (.iload_n 1, 1) := by decide +kernel
theorem dX9_requireInView_2 : decode cX9_requireInView 2 = .ok (.iload_n 2, 1) := by decide +kernel
theorem dX9_requireInView_3 : decode cX9_requireInView 3 = .ok (.invokevirtual 138, 3) := by decide +kernel
theorem dX9_requireInView_6 : decode cX9_requireInView 6 = .ok (.ifCond .ne 14, 3) := by decide +kernel
theorem dX9_requireInView_9 : decode cX9_requireInView 9 = .ok (.new 174, 3) := by decide +kernel
theorem dX9_requireInView_12 : decode cX9_requireInView 12 = .ok (.dup, 1) := by decide +kernel
theorem dX9_requireInView_13 : decode cX9_requireInView 13 = .ok (.ldc_w 362, 3) := by decide +kernel
theorem dX9_requireInView_16 : decode cX9_requireInView 16 = .ok (.invokespecial 178, 3) := by decide +kernel
theorem dX9_requireInView_19 : decode cX9_requireInView 19 = .ok (.athrow, 1) := by decide +kernel
theorem dX9_requireInView_20 : decode cX9_requireInView 20 = .ok (.return_, 1) := by decide +kernel
theorem dX9_requirePinned_0 : decode cX9_requirePinned 0 = .ok (.aload_n 0, 1) := by decide +kernel
theorem dX9_requirePinned_1 : decode cX9_requirePinned 1 = .ok (.getfield 58, 3) := by decide +kernel
theorem dX9_requirePinned_4 : decode cX9_requirePinned 4 = .ok (.iload_n 1, 1) := by decide +kernel
theorem dX9_requirePinned_5 : decode cX9_requirePinned 5 = .ok (.baload, 1) := by decide +kernel
theorem dX9_requirePinned_6 : decode cX9_requirePinned 6 = .ok (.ifCond .ne 14, 3) := by decide +kernel
theorem dX9_requirePinned_9 : decode cX9_requirePinned 9 = .ok (.new 117, 3) := by decide +kernel
theorem dX9_requirePinned_12 : decode cX9_requirePinned 12 = .ok (.dup, 1) := by decide +kernel
theorem dX9_requirePinned_13 : decode cX9_requirePinned 13 = .ok (.ldc_w 364, 3) := by decide +kernel
theorem dX9_requirePinned_16 : decode cX9_requirePinned 16 = .ok (.invokespecial 121, 3) := by decide +kernel
theorem dX9_requirePinned_19 : decode cX9_requirePinned 19 = .ok (.athrow, 1) := by decide +kernel
theorem dX9_requirePinned_20 : decode cX9_requirePinned 20 = .ok (.return_, 1) := by decide +kernel
theorem dX9_isIn_0 : decode cX9_isIn 0 = .ok (.lload_n 0, 1) := by decide +kernel
theorem dX9_isIn_1 : decode cX9_isIn 1 = .ok (.iload_n 2, 1) := by decide +kernel
theorem dX9_isIn_2 : decode cX9_isIn 2 = .ok (.lushr, 1) := by decide +kernel
theorem dX9_isIn_3 : decode cX9_isIn 3 = .ok (.lconst 1, 1) := by decide +kernel
theorem dX9_isIn_4 : decode cX9_isIn 4 = .ok (.land, 1) := by decide +kernel
theorem dX9_isIn_5 : decode cX9_isIn 5 = .ok (.lconst 0, 1) := by decide +kernel
theorem dX9_isIn_6 : decode cX9_isIn 6 = .ok (.lcmp, 1) := by decide +kernel
theorem dX9_isIn_7 : decode cX9_isIn 7 = .ok (.ifCond .eq 7, 3) := by decide +kernel
theorem dX9_isIn_10 : decode cX9_isIn 10 = .ok (.iconst 1, 1) := by decide +kernel
theorem dX9_isIn_11 : decode cX9_isIn 11 = .ok (.goto 4, 3) := by decide +kernel
theorem dX9_isIn_14 : decode cX9_isIn 14 = .ok (.iconst 0, 1) := by decide +kernel
theorem dX9_isIn_15 : decode cX9_isIn 15 = .ok (.ireturn, 1) := by decide +kernel
theorem dX9_setOf_0 : decode cX9_setOf 0 = .ok (.lconst 1, 1) := by decide +kernel
theorem dX9_setOf_1 : decode cX9_setOf 1 = .ok (.iload_n 0, 1) := by decide +kernel
theorem dX9_setOf_2 : decode cX9_setOf 2 = .ok (.lshl, 1) := by decide +kernel
theorem dX9_setOf_3 : decode cX9_setOf 3 = .ok (.lreturn, 1) := by decide +kernel
set_option maxRecDepth 20000 in
theorem ggX9_memberAt_X9_isIn : GoodIn wsX9_memberAt wsX9_isIn := goodIn_r _ [4] (by decide +kernel) (by decide +kernel)
set_option maxRecDepth 20000 in
theorem gX9_memberAt_X9_isIn : GoodIn wsX9_memberAt (va_wsS RX9 209 yX9_isIn wsX9_isIn) := goodIn_app (goodIn_of _ (by decide +kernel)) ggX9_memberAt_X9_isIn
theorem dX9_memberAt_0 : decode cX9_memberAt 0 = .ok (.iload_n 2, 1) := by decide +kernel
theorem dX9_memberAt_1 : decode cX9_memberAt 1 = .ok (.istore_n 3, 1) := by decide +kernel
theorem dX9_memberAt_2 : decode cX9_memberAt 2 = .ok (.iconst 0, 1) := by decide +kernel
theorem dX9_memberAt_3 : decode cX9_memberAt 3 = .ok (.istore 4, 2) := by decide +kernel
theorem dX9_memberAt_5 : decode cX9_memberAt 5 = .ok (.iload 4, 2) := by decide +kernel
theorem dX9_memberAt_7 : decode cX9_memberAt 7 = .ok (.bipush 64, 2) := by decide +kernel
theorem dX9_memberAt_9 : decode cX9_memberAt 9 = .ok (.if_icmp .ge 28, 3) := by decide +kernel
theorem dX9_memberAt_12 : decode cX9_memberAt 12 = .ok (.lload_n 0, 1) := by decide +kernel
theorem dX9_memberAt_13 : decode cX9_memberAt 13 = .ok (.iload 4, 2) := by decide +kernel
theorem dX9_memberAt_15 : decode cX9_memberAt 15 = .ok (.invokestatic 209, 3) := by decide +kernel
theorem dX9_memberAt_18 : decode cX9_memberAt 18 = .ok (.ifCond .eq 13, 3) := by decide +kernel
theorem dX9_memberAt_21 : decode cX9_memberAt 21 = .ok (.iload_n 3, 1) := by decide +kernel
theorem dX9_memberAt_22 : decode cX9_memberAt 22 = .ok (.ifCond .ne 6, 3) := by decide +kernel
theorem dX9_memberAt_25 : decode cX9_memberAt 25 = .ok (.iload 4, 2) := by decide +kernel
theorem dX9_memberAt_27 : decode cX9_memberAt 27 = .ok (.ireturn, 1) := by decide +kernel
theorem dX9_memberAt_28 : decode cX9_memberAt 28 = .ok (.iinc 3 (-1), 3) := by decide +kernel
theorem dX9_memberAt_31 : decode cX9_memberAt 31 = .ok (.iinc 4 1, 3) := by decide +kernel
theorem dX9_memberAt_34 : decode cX9_memberAt 34 = .ok (.goto (-29), 3) := by decide +kernel
theorem dX9_memberAt_37 : decode cX9_memberAt 37 = .ok (.iconst (-1), 1) := by decide +kernel
theorem dX9_memberAt_38 : decode cX9_memberAt 38 = .ok (.ireturn, 1) := by decide +kernel
set_option maxRecDepth 20000 in
theorem ggX9_makeNewFile_X1_wipe : GoodIn wsX9_makeNewFile wsX1_wipe := goodIn_r _ [11, 12, 13, 14, 15, 16, 66, 67] (by decide +kernel) (by decide +kernel)
set_option maxRecDepth 20000 in
theorem gX9_makeNewFile_X1_wipe : GoodIn wsX9_makeNewFile (wsV RX9 366 RX1 yX1_wipe wsX1_wipe) := goodIn_app (goodIn_of _ (by decide +kernel)) ggX9_makeNewFile_X1_wipe
set_option maxRecDepth 20000 in
theorem ggX9_makeNewFile_X8_makeEmpty : GoodIn wsX9_makeNewFile wsX8_makeEmpty := goodIn_r _ [21, 22, 23, 24, 25, 26, 27, 14, 15, 16, 68, 69, 70, 71, 72, 73] (by decide +kernel) (by decide +kernel)
set_option maxRecDepth 20000 in
theorem gX9_makeNewFile_X8_makeEmpty : GoodIn wsX9_makeNewFile (wsV RX9 369 RX8 yX8_makeEmpty wsX8_makeEmpty) := goodIn_app (goodIn_of _ (by decide +kernel)) ggX9_makeNewFile_X8_makeEmpty
set_option maxRecDepth 20000 in
theorem ggX9_makeNewFile_X8_describeTable : GoodIn wsX9_makeNewFile wsX8_describeTable := goodIn_r _ [31, 24, 22, 32, 33, 34, 35, 27, 14, 15, 16, 68, 69, 70, 71, 72, 73] (by decide +kernel) (by decide +kernel)
set_option maxRecDepth 20000 in
theorem gX9_makeNewFile_X8_describeTable : GoodIn wsX9_makeNewFile (wsV RX9 375 RX8 yX8_describeTable wsX8_describeTable) := goodIn_app (goodIn_of _ (by decide +kernel)) ggX9_makeNewFile_X8_describeTable
set_option maxRecDepth 20000 in
theorem ggX9_makeNewFile_X1_writeWhole : GoodIn wsX9_makeNewFile wsX1_writeWhole := goodIn_r _ [39, 40, 12, 41, 33, 34, 35, 42, 43, 44, 10, 45, 66, 67] (by decide +kernel) (by decide +kernel)
set_option maxRecDepth 20000 in
theorem gX9_makeNewFile_X1_writeWhole : GoodIn wsX9_makeNewFile (wsV RX9 382 RX1 yX1_writeWhole wsX1_writeWhole) := goodIn_app (goodIn_of _ (by decide +kernel)) ggX9_makeNewFile_X1_writeWhole
set_option maxRecDepth 20000 in
theorem ggX9_makeNewFile_X8_describeRoot : GoodIn wsX9_makeNewFile wsX8_describeRoot := goodIn_r _ [49, 24, 26, 27, 14, 15, 16, 68, 69, 70, 71, 72, 73] (by decide +kernel) (by decide +kernel)
set_option maxRecDepth 20000 in
theorem gX9_makeNewFile_X8_describeRoot : GoodIn wsX9_makeNewFile (wsV RX9 385 RX8 yX8_describeRoot wsX8_describeRoot) := goodIn_app (goodIn_of _ (by decide +kernel)) ggX9_makeNewFile_X8_describeRoot
theorem dX9_makeNewFile_0 : decode cX9_makeNewFile 0 = .ok (.aload_n 0, 1) := by decide +kernel
theorem dX9_makeNewFile_1 : decode cX9_makeNewFile 1 = .ok (.getfield 10, 3) := by decide +kernel
theorem dX9_makeNewFile_4 : decode cX9_makeNewFile 4 = .ok (.invokevirtual 366, 3) := by decide +kernel
theorem dX9_makeNewFile_7 : decode cX9_makeNewFile 7 = .ok (.aload_n 0, 1) := by decide +kernel
theorem dX9_makeNewFile_8 : decode cX9_makeNewFile 8 = .ok (.getfield 19, 3) := by decide +kernel
theorem dX9_makeNewFile_11 : decode cX9_makeNewFile 11 = .ok (.invokevirtual 369, 3) := by decide +kernel
theorem dX9_makeNewFile_14 : decode cX9_makeNewFile 14 = .ok (.aload_n 0, 1) := by decide +kernel
theorem dX9_makeNewFile_15 : decode cX9_makeNewFile 15 = .ok (.getfield 19, 3) := by decide +kernel
theorem dX9_makeNewFile_18 : decode cX9_makeNewFile 18 = .ok (.aload_n 0, 1) := by decide +kernel
theorem dX9_makeNewFile_19 : decode cX9_makeNewFile 19 = .ok (.getfield 10, 3) := by decide +kernel
theorem dX9_makeNewFile_22 : decode cX9_makeNewFile 22 = .ok (.getfield 372, 3) := by decide +kernel
theorem dX9_makeNewFile_25 : decode cX9_makeNewFile 25 = .ok (.invokevirtual 375, 3) := by decide +kernel
theorem dX9_makeNewFile_28 : decode cX9_makeNewFile 28 = .ok (.aload_n 0, 1) := by decide +kernel
theorem dX9_makeNewFile_29 : decode cX9_makeNewFile 29 = .ok (.getfield 10, 3) := by decide +kernel
theorem dX9_makeNewFile_32 : decode cX9_makeNewFile 32 = .ok (.aload_n 0, 1) := by decide +kernel
theorem dX9_makeNewFile_33 : decode cX9_makeNewFile 33 = .ok (.getfield 19, 3) := by decide +kernel
theorem dX9_makeNewFile_36 : decode cX9_makeNewFile 36 = .ok (.getfield 379, 3) := by decide +kernel
theorem dX9_makeNewFile_39 : decode cX9_makeNewFile 39 = .ok (.invokevirtual 382, 3) := by decide +kernel
theorem dX9_makeNewFile_42 : decode cX9_makeNewFile 42 = .ok (.aload_n 0, 1) := by decide +kernel
theorem dX9_makeNewFile_43 : decode cX9_makeNewFile 43 = .ok (.getfield 19, 3) := by decide +kernel
theorem dX9_makeNewFile_46 : decode cX9_makeNewFile 46 = .ok (.aload_n 0, 1) := by decide +kernel
theorem dX9_makeNewFile_47 : decode cX9_makeNewFile 47 = .ok (.getfield 10, 3) := by decide +kernel
theorem dX9_makeNewFile_50 : decode cX9_makeNewFile 50 = .ok (.getfield 372, 3) := by decide +kernel
theorem dX9_makeNewFile_53 : decode cX9_makeNewFile 53 = .ok (.invokevirtual 385, 3) := by decide +kernel
theorem dX9_makeNewFile_56 : decode cX9_makeNewFile 56 = .ok (.aload_n 0, 1) := by decide +kernel
theorem dX9_makeNewFile_57 : decode cX9_makeNewFile 57 = .ok (.getfield 10, 3) := by decide +kernel
theorem dX9_makeNewFile_60 : decode cX9_makeNewFile 60 = .ok (.aload_n 0, 1) := by decide +kernel
theorem dX9_makeNewFile_61 : decode cX9_makeNewFile 61 = .ok (.getfield 19, 3) := by decide +kernel
theorem dX9_makeNewFile_64 : decode cX9_makeNewFile 64 = .ok (.getfield 388, 3) := by decide +kernel
theorem dX9_makeNewFile_67 : decode cX9_makeNewFile 67 = .ok (.invokevirtual 382, 3) := by decide +kernel
theorem dX9_makeNewFile_70 : decode cX9_makeNewFile 70 = .ok (.aload_n 0, 1) := by decide +kernel
theorem dX9_makeNewFile_71 : decode cX9_makeNewFile 71 = .ok (.iconst 1, 1) := by decide +kernel
theorem dX9_makeNewFile_72 : decode cX9_makeNewFile 72 = .ok (.putfield 93, 3) := by decide +kernel
theorem dX9_makeNewFile_75 : decode cX9_makeNewFile 75 = .ok (.return_, 1) := by decide +kernel
set_option maxRecDepth 20000 in
theorem ggX9_endSlotsAndPins_X7_reset : GoodIn wsX9_endSlotsAndPins wsX7_reset := goodIn_r _ [8, 9, 10, 11, 12, 13, 14, 15, 16, 17, 18, 35, 36, 37, 38, 39, 40, 41] (by decide +kernel) (by decide +kernel)
set_option maxRecDepth 20000 in
theorem gX9_endSlotsAndPins_X7_reset : GoodIn wsX9_endSlotsAndPins (wsV RX9 113 RX7 yX7_reset wsX7_reset) := goodIn_app (goodIn_of _ (by decide +kernel)) ggX9_endSlotsAndPins_X7_reset
theorem dX9_endSlotsAndPins_0 : decode cX9_endSlotsAndPins 0 = .ok (.iconst 0, 1) := by decide +kernel
theorem dX9_endSlotsAndPins_1 : decode cX9_endSlotsAndPins 1 = .ok (.istore_n 1, 1) := by decide +kernel
theorem dX9_endSlotsAndPins_2 : decode cX9_endSlotsAndPins 2 = .ok (.iload_n 1, 1) := by decide +kernel
theorem dX9_endSlotsAndPins_3 : decode cX9_endSlotsAndPins 3 = .ok (.iconst 3, 1) := by decide +kernel
theorem dX9_endSlotsAndPins_4 : decode cX9_endSlotsAndPins 4 = .ok (.if_icmp .ge 19, 3) := by decide +kernel
theorem dX9_endSlotsAndPins_7 : decode cX9_endSlotsAndPins 7 = .ok (.aload_n 0, 1) := by decide +kernel
theorem dX9_endSlotsAndPins_8 : decode cX9_endSlotsAndPins 8 = .ok (.getfield 42, 3) := by decide +kernel
theorem dX9_endSlotsAndPins_11 : decode cX9_endSlotsAndPins 11 = .ok (.iload_n 1, 1) := by decide +kernel
theorem dX9_endSlotsAndPins_12 : decode cX9_endSlotsAndPins 12 = .ok (.aaload, 1) := by decide +kernel
theorem dX9_endSlotsAndPins_13 : decode cX9_endSlotsAndPins 13 = .ok (.iconst 0, 1) := by decide +kernel
theorem dX9_endSlotsAndPins_14 : decode cX9_endSlotsAndPins 14 = .ok (.invokevirtual 113, 3) := by decide +kernel
theorem dX9_endSlotsAndPins_17 : decode cX9_endSlotsAndPins 17 = .ok (.iinc 1 1, 3) := by decide +kernel
theorem dX9_endSlotsAndPins_20 : decode cX9_endSlotsAndPins 20 = .ok (.goto (-18), 3) := by decide +kernel
theorem dX9_endSlotsAndPins_23 : decode cX9_endSlotsAndPins 23 = .ok (.aload_n 0, 1) := by decide +kernel
theorem dX9_endSlotsAndPins_24 : decode cX9_endSlotsAndPins 24 = .ok (.iconst 0, 1) := by decide +kernel
theorem dX9_endSlotsAndPins_25 : decode cX9_endSlotsAndPins 25 = .ok (.putfield 50, 3) := by decide +kernel
theorem dX9_endSlotsAndPins_28 : decode cX9_endSlotsAndPins 28 = .ok (.iconst 0, 1) := by decide +kernel
theorem dX9_endSlotsAndPins_29 : decode cX9_endSlotsAndPins 29 = .ok (.istore_n 1, 1) := by decide +kernel
theorem dX9_endSlotsAndPins_30 : decode cX9_endSlotsAndPins 30 = .ok (.iload_n 1, 1) := by decide +kernel
theorem dX9_endSlotsAndPins_31 : decode cX9_endSlotsAndPins 31 = .ok (.iconst 2, 1) := by decide +kernel
theorem dX9_endSlotsAndPins_32 : decode cX9_endSlotsAndPins 32 = .ok (.if_icmp .ge 16, 3) := by decide +kernel
theorem dX9_endSlotsAndPins_35 : decode cX9_endSlotsAndPins 35 = .ok (.aload_n 0, 1) := by decide +kernel
theorem dX9_endSlotsAndPins_36 : decode cX9_endSlotsAndPins 36 = .ok (.getfield 58, 3) := by decide +kernel
theorem dX9_endSlotsAndPins_39 : decode cX9_endSlotsAndPins 39 = .ok (.iload_n 1, 1) := by decide +kernel
theorem dX9_endSlotsAndPins_40 : decode cX9_endSlotsAndPins 40 = .ok (.iconst 0, 1) := by decide +kernel
theorem dX9_endSlotsAndPins_41 : decode cX9_endSlotsAndPins 41 = .ok (.bastore, 1) := by decide +kernel
theorem dX9_endSlotsAndPins_42 : decode cX9_endSlotsAndPins 42 = .ok (.iinc 1 1, 3) := by decide +kernel
theorem dX9_endSlotsAndPins_45 : decode cX9_endSlotsAndPins 45 = .ok (.goto (-15), 3) := by decide +kernel
theorem dX9_endSlotsAndPins_48 : decode cX9_endSlotsAndPins 48 = .ok (.return_, 1) := by decide +kernel
set_option maxRecDepth 20000 in
theorem ggX9_usableRoot_X1_isUsableRoot : GoodIn wsX9_usableRoot wsX1_isUsableRoot := goodIn_r _ [7, 8, 9, 10, 11, 12, 6, 13, 14, 15, 16, 17, 18, 19, 20, 21, 22, 23, 24, 25, 26, 27, 28, 29, 30, 31, 32, 49, 50] (by decide +kernel) (by decide +kernel)
set_option maxRecDepth 20000 in
theorem gX9_usableRoot_X1_isUsableRoot : GoodIn wsX9_usableRoot (wsV RX9 391 RX1 yX1_isUsableRoot wsX1_isUsableRoot) := goodIn_app (goodIn_of _ (by decide +kernel)) ggX9_usableRoot_X1_isUsableRoot
theorem dX9_usableRoot_0 : decode cX9_usableRoot 0 = .ok (.aload_n 0, 1) := by decide +kernel
theorem dX9_usableRoot_1 : decode cX9_usableRoot 1 = .ok (.getfield 10, 3) := by decide +kernel
theorem dX9_usableRoot_4 : decode cX9_usableRoot 4 = .ok (.iconst 0, 1) := by decide +kernel
theorem dX9_usableRoot_5 : decode cX9_usableRoot 5 = .ok (.invokevirtual 391, 3) := by decide +kernel
theorem dX9_usableRoot_8 : decode cX9_usableRoot 8 = .ok (.istore_n 1, 1) := by decide +kernel
theorem dX9_usableRoot_9 : decode cX9_usableRoot 9 = .ok (.aload_n 0, 1) := by decide +kernel
theorem dX9_usableRoot_10 : decode cX9_usableRoot 10 = .ok (.getfield 10, 3) := by decide +kernel
theorem dX9_usableRoot_13 : decode cX9_usableRoot 13 = .ok (.iconst 1, 1) := by decide +kernel
theorem dX9_usableRoot_14 : decode cX9_usableRoot 14 = .ok (.invokevirtual 391, 3) := by decide +kernel
theorem dX9_usableRoot_17 : decode cX9_usableRoot 17 = .ok (.istore_n 2, 1) := by decide +kernel
theorem dX9_usableRoot_18 : decode cX9_usableRoot 18 = .ok (.iload_n 1, 1) := by decide +kernel
theorem dX9_usableRoot_19 : decode cX9_usableRoot 19 = .ok (.ifCond .eq 38, 3) := by decide +kernel
theorem dX9_usableRoot_22 : decode cX9_usableRoot 22 = .ok (.iload_n 2, 1) := by decide +kernel
theorem dX9_usableRoot_23 : decode cX9_usableRoot 23 = .ok (.ifCond .eq 34, 3) := by decide +kernel
theorem dX9_usableRoot_26 : decode cX9_usableRoot 26 = .ok (.aload_n 0, 1) := by decide +kernel
theorem dX9_usableRoot_27 : decode cX9_usableRoot 27 = .ok (.getfield 10, 3) := by decide +kernel
theorem dX9_usableRoot_30 : decode cX9_usableRoot 30 = .ok (.getfield 329, 3) := by decide +kernel
theorem dX9_usableRoot_33 : decode cX9_usableRoot 33 = .ok (.iconst 1, 1) := by decide +kernel
theorem dX9_usableRoot_34 : decode cX9_usableRoot 34 = .ok (.aaload, 1) := by decide +kernel
theorem dX9_usableRoot_35 : decode cX9_usableRoot 35 = .ok (.iconst 1, 1) := by decide +kernel
theorem dX9_usableRoot_36 : decode cX9_usableRoot 36 = .ok (.iaload, 1) := by decide +kernel
theorem dX9_usableRoot_37 : decode cX9_usableRoot 37 = .ok (.aload_n 0, 1) := by decide +kernel
theorem dX9_usableRoot_38 : decode cX9_usableRoot 38 = .ok (.getfield 10, 3) := by decide +kernel
theorem dX9_usableRoot_41 : decode cX9_usableRoot 41 = .ok (.getfield 329, 3) := by decide +kernel
theorem dX9_usableRoot_44 : decode cX9_usableRoot 44 = .ok (.iconst 0, 1) := by decide +kernel
theorem dX9_usableRoot_45 : decode cX9_usableRoot 45 = .ok (.aaload, 1) := by decide +kernel
theorem dX9_usableRoot_46 : decode cX9_usableRoot 46 = .ok (.iconst 1, 1) := by decide +kernel
theorem dX9_usableRoot_47 : decode cX9_usableRoot 47 = .ok (.iaload, 1) := by decide +kernel
theorem dX9_usableRoot_48 : decode cX9_usableRoot 48 = .ok (.if_icmp .le 7, 3) := by decide +kernel
theorem dX9_usableRoot_51 : decode cX9_usableRoot 51 = .ok (.iconst 1, 1) := by decide +kernel
theorem dX9_usableRoot_52 : decode cX9_usableRoot 52 = .ok (.goto 4, 3) := by decide +kernel
theorem dX9_usableRoot_55 : decode cX9_usableRoot 55 = .ok (.iconst 0, 1) := by decide +kernel
theorem dX9_usableRoot_56 : decode cX9_usableRoot 56 = .ok (.ireturn, 1) := by decide +kernel
theorem dX9_usableRoot_57 : decode cX9_usableRoot 57 = .ok (.iload_n 1, 1) := by decide +kernel
theorem dX9_usableRoot_58 : decode cX9_usableRoot 58 = .ok (.ifCond .eq 5, 3) := by decide +kernel
theorem dX9_usableRoot_61 : decode cX9_usableRoot 61 = .ok (.iconst 0, 1) := by decide +kernel
theorem dX9_usableRoot_62 : decode cX9_usableRoot 62 = .ok (.ireturn, 1) := by decide +kernel
theorem dX9_usableRoot_63 : decode cX9_usableRoot 63 = .ok (.iload_n 2, 1) := by decide +kernel
theorem dX9_usableRoot_64 : decode cX9_usableRoot 64 = .ok (.ifCond .eq 7, 3) := by decide +kernel
theorem dX9_usableRoot_67 : decode cX9_usableRoot 67 = .ok (.iconst 1, 1) := by decide +kernel
theorem dX9_usableRoot_68 : decode cX9_usableRoot 68 = .ok (.goto 4, 3) := by decide +kernel
theorem dX9_usableRoot_71 : decode cX9_usableRoot 71 = .ok (.iconst (-1), 1) := by decide +kernel
theorem dX9_usableRoot_72 : decode cX9_usableRoot 72 = .ok (.ireturn, 1) := by decide +kernel
set_option maxRecDepth 20000 in
theorem ggX9_recordOf_X9_isIn : GoodIn wsX9_recordOf wsX9_isIn := goodIn_r _ [8] (by decide +kernel) (by decide +kernel)
set_option maxRecDepth 20000 in
theorem gX9_recordOf_X9_isIn : GoodIn wsX9_recordOf (va_wsS RX9 209 yX9_isIn wsX9_isIn) := goodIn_app (goodIn_of _ (by decide +kernel)) ggX9_recordOf_X9_isIn
theorem dX9_recordOf_0 : decode cX9_recordOf 0 = .ok (.aload_n 0, 1) := by decide +kernel
theorem dX9_recordOf_1 : decode cX9_recordOf 1 = .ok (.getfield 225, 3) := by decide +kernel
theorem dX9_recordOf_4 : decode cX9_recordOf 4 = .ok (.iload_n 1, 1) := by decide +kernel
theorem dX9_recordOf_5 : decode cX9_recordOf 5 = .ok (.invokestatic 209, 3) := by decide +kernel
theorem dX9_recordOf_8 : decode cX9_recordOf 8 = .ok (.ifCond .ne 14, 3) := by decide +kernel
theorem dX9_recordOf_11 : decode cX9_recordOf 11 = .ok (.new 174, 3) := by decide +kernel
theorem dX9_recordOf_14 : decode cX9_recordOf 14 = .ok (.dup, 1) := by decide +kernel
theorem dX9_recordOf_15 : decode cX9_recordOf 15 = .ok (.ldc_w 394, 3) := by decide +kernel
theorem dX9_recordOf_18 : decode cX9_recordOf 18 = .ok (.invokespecial 178, 3) := by decide +kernel
theorem dX9_recordOf_21 : decode cX9_recordOf 21 = .ok (.athrow, 1) := by decide +kernel
theorem dX9_recordOf_22 : decode cX9_recordOf 22 = .ok (.aload_n 0, 1) := by decide +kernel
theorem dX9_recordOf_23 : decode cX9_recordOf 23 = .ok (.getfield 228, 3) := by decide +kernel
theorem dX9_recordOf_26 : decode cX9_recordOf 26 = .ok (.iload_n 1, 1) := by decide +kernel
theorem dX9_recordOf_27 : decode cX9_recordOf 27 = .ok (.iaload, 1) := by decide +kernel
theorem dX9_recordOf_28 : decode cX9_recordOf 28 = .ok (.ireturn, 1) := by decide +kernel
set_option maxRecDepth 20000 in
theorem ggX9_freeBlocks_X9_setOf : GoodIn wsX9_freeBlocks wsX9_setOf := goodIn_r _ [8] (by decide +kernel) (by decide +kernel)
set_option maxRecDepth 20000 in
theorem gX9_freeBlocks_X9_setOf : GoodIn wsX9_freeBlocks (va_wsS RX9 396 yX9_setOf wsX9_setOf) := goodIn_app (goodIn_of _ (by decide +kernel)) ggX9_freeBlocks_X9_setOf
set_option maxRecDepth 20000 in
theorem ggX9_freeBlocks_X8_usedBlocks : GoodIn wsX9_freeBlocks wsX8_usedBlocks := goodIn_r _ [13, 14, 15, 6, 7, 8, 32, 33, 34, 35, 36, 37] (by decide +kernel) (by decide +kernel)
set_option maxRecDepth 20000 in
theorem gX9_freeBlocks_X8_usedBlocks : GoodIn wsX9_freeBlocks (wsV RX9 400 RX8 yX8_usedBlocks wsX8_usedBlocks) := goodIn_app (goodIn_of _ (by decide +kernel)) ggX9_freeBlocks_X8_usedBlocks
theorem dX9_freeBlocks_0 : decode cX9_freeBlocks 0 = .ok (.lconst 0, 1) := by decide +kernel
theorem dX9_freeBlocks_1 : decode cX9_freeBlocks 1 = .ok (.lstore_n 1, 1) := by decide +kernel
theorem dX9_freeBlocks_2 : decode cX9_freeBlocks 2 = .ok (.iconst 2, 1) := by decide +kernel
theorem dX9_freeBlocks_3 : decode cX9_freeBlocks 3 = .ok (.istore_n 3, 1) := by decide +kernel
theorem dX9_freeBlocks_4 : decode cX9_freeBlocks 4 = .ok (.iload_n 3, 1) := by decide +kernel
theorem dX9_freeBlocks_5 : decode cX9_freeBlocks 5 = .ok (.bipush 32, 2) := by decide +kernel
theorem dX9_freeBlocks_7 : decode cX9_freeBlocks 7 = .ok (.if_icmp .ge 16, 3) := by decide +kernel
theorem dX9_freeBlocks_10 : decode cX9_freeBlocks 10 = .ok (.lload_n 1, 1) := by decide +kernel
theorem dX9_freeBlocks_11 : decode cX9_freeBlocks 11 = .ok (.iload_n 3, 1) := by decide +kernel
theorem dX9_freeBlocks_12 : decode cX9_freeBlocks 12 = .ok (.invokestatic 396, 3) := by decide +kernel
theorem dX9_freeBlocks_15 : decode cX9_freeBlocks 15 = .ok (.lor, 1) := by decide +kernel
theorem dX9_freeBlocks_16 : decode cX9_freeBlocks 16 = .ok (.lstore_n 1, 1) := by decide +kernel
theorem dX9_freeBlocks_17 : decode cX9_freeBlocks 17 = .ok (.iinc 3 1, 3) := by decide +kernel
theorem dX9_freeBlocks_20 : decode cX9_freeBlocks 20 = .ok (.goto (-16), 3) := by decide +kernel
theorem dX9_freeBlocks_23 : decode cX9_freeBlocks 23 = .ok (.lload_n 1, 1) := by decide +kernel
theorem dX9_freeBlocks_24 : decode cX9_freeBlocks 24 = .ok (.aload_n 0, 1) := by decide +kernel
theorem dX9_freeBlocks_25 : decode cX9_freeBlocks 25 = .ok (.getfield 19, 3) := by decide +kernel
theorem dX9_freeBlocks_28 : decode cX9_freeBlocks 28 = .ok (.invokevirtual 400, 3) := by decide +kernel
theorem dX9_freeBlocks_31 : decode cX9_freeBlocks 31 = .ok (.ldc2_w 403, 3) := by decide +kernel
theorem dX9_freeBlocks_34 : decode cX9_freeBlocks 34 = .ok (.lxor, 1) := by decide +kernel
theorem dX9_freeBlocks_35 : decode cX9_freeBlocks 35 = .ok (.land, 1) := by decide +kernel
theorem dX9_freeBlocks_36 : decode cX9_freeBlocks 36 = .ok (.lstore_n 1, 1) := by decide +kernel
theorem dX9_freeBlocks_37 : decode cX9_freeBlocks 37 = .ok (.iconst 0, 1) := by decide +kernel
theorem dX9_freeBlocks_38 : decode cX9_freeBlocks 38 = .ok (.istore_n 3, 1) := by decide +kernel
theorem dX9_freeBlocks_39 : decode cX9_freeBlocks 39 = .ok (.iload_n 3, 1) := by decide +kernel
theorem dX9_freeBlocks_40 : decode cX9_freeBlocks 40 = .ok (.iconst 2, 1) := by decide +kernel
theorem dX9_freeBlocks_41 : decode cX9_freeBlocks 41 = .ok (.if_icmp .ge 34, 3) := by decide +kernel
theorem dX9_freeBlocks_44 : decode cX9_freeBlocks 44 = .ok (.aload_n 0, 1) := by decide +kernel
theorem dX9_freeBlocks_45 : decode cX9_freeBlocks 45 = .ok (.getfield 58, 3) := by decide +kernel
theorem dX9_freeBlocks_48 : decode cX9_freeBlocks 48 = .ok (.iload_n 3, 1) := by decide +kernel
theorem dX9_freeBlocks_49 : decode cX9_freeBlocks 49 = .ok (.baload, 1) := by decide +kernel
theorem dX9_freeBlocks_50 : decode cX9_freeBlocks 50 = .ok (.ifCond .eq 19, 3) := by decide +kernel
theorem dX9_freeBlocks_53 : decode cX9_freeBlocks 53 = .ok (.lload_n 1, 1) := by decide +kernel
theorem dX9_freeBlocks_54 : decode cX9_freeBlocks 54 = .ok (.aload_n 0, 1) := by decide +kernel
theorem dX9_freeBlocks_55 : decode cX9_freeBlocks 55 = .ok (.getfield 54, 3) := by decide +kernel
theorem dX9_freeBlocks_58 : decode cX9_freeBlocks 58 = .ok (.iload_n 3, 1) := by decide +kernel
theorem dX9_freeBlocks_59 : decode cX9_freeBlocks 59 = .ok (.aaload, 1) := by decide +kernel
theorem dX9_freeBlocks_60 : decode cX9_freeBlocks 60 = .ok (.invokevirtual 400, 3) := by decide +kernel
theorem dX9_freeBlocks_63 : decode cX9_freeBlocks 63 = .ok (.ldc2_w 403, 3) := by decide +kernel
theorem dX9_freeBlocks_66 : decode cX9_freeBlocks 66 = .ok (.lxor, 1) := by decide +kernel
theorem dX9_freeBlocks_67 : decode cX9_freeBlocks 67 = .ok (.land, 1) := by decide +kernel
theorem dX9_freeBlocks_68 : decode cX9_freeBlocks 68 = .ok (.lstore_n 1, 1) := by decide +kernel
theorem dX9_freeBlocks_69 : decode cX9_freeBlocks 69 = .ok (.iinc 3 1, 3) := by decide +kernel
theorem dX9_freeBlocks_72 : decode cX9_freeBlocks 72 = .ok (.goto (-33), 3) := by decide +kernel
theorem dX9_freeBlocks_75 : decode cX9_freeBlocks 75 = .ok (.lload_n 1, 1) := by decide +kernel
theorem dX9_freeBlocks_76 : decode cX9_freeBlocks 76 = .ok (.lreturn, 1) := by decide +kernel
set_option maxRecDepth 20000 in
theorem ggX9_isInView_X9_isIn : GoodIn wsX9_isInView wsX9_isIn := goodIn_r _ [10] (by decide +kernel) (by decide +kernel)
set_option maxRecDepth 20000 in
theorem gX9_isInView_X9_isIn : GoodIn wsX9_isInView (va_wsS RX9 209 yX9_isIn wsX9_isIn) := goodIn_app (goodIn_of _ (by decide +kernel)) ggX9_isInView_X9_isIn
theorem dX9_isInView_0 : decode cX9_isInView 0 = .ok (.aload_n 0, 1) := by decide +kernel
theorem dX9_isInView_1 : decode cX9_isInView 1 = .ok (.getfield 42, 3) := by decide +kernel
theorem dX9_isInView_4 : decode cX9_isInView 4 = .ok (.iload_n 1, 1) := by decide +kernel
theorem dX9_isInView_5 : decode cX9_isInView 5 = .ok (.aaload, 1) := by decide +kernel
theorem dX9_isInView_6 : decode cX9_isInView 6 = .ok (.getfield 142, 3) := by decide +kernel
theorem dX9_isInView_9 : decode cX9_isInView 9 = .ok (.astore_n 3, 1) := by decide +kernel
theorem dX9_isInView_10 : decode cX9_isInView 10 = .ok (.aload_n 3, 1) := by decide +kernel
theorem dX9_isInView_11 : decode cX9_isInView 11 = .ok (.getfield 216, 3) := by decide +kernel
theorem dX9_isInView_14 : decode cX9_isInView 14 = .ok (.iload_n 2, 1) := by decide +kernel
theorem dX9_isInView_15 : decode cX9_isInView 15 = .ok (.invokestatic 209, 3) := by decide +kernel
theorem dX9_isInView_18 : decode cX9_isInView 18 = .ok (.ifCond .eq 20, 3) := by decide +kernel
theorem dX9_isInView_21 : decode cX9_isInView 21 = .ok (.aload_n 3, 1) := by decide +kernel
theorem dX9_isInView_22 : decode cX9_isInView 22 = .ok (.getfield 205, 3) := by decide +kernel
theorem dX9_isInView_25 : decode cX9_isInView 25 = .ok (.iload_n 2, 1) := by decide +kernel
theorem dX9_isInView_26 : decode cX9_isInView 26 = .ok (.invokestatic 209, 3) := by decide +kernel
theorem dX9_isInView_29 : decode cX9_isInView 29 = .ok (.ifCond .ne 7, 3) := by decide +kernel
theorem dX9_isInView_32 : decode cX9_isInView 32 = .ok (.iconst 1, 1) := by decide +kernel
theorem dX9_isInView_33 : decode cX9_isInView 33 = .ok (.goto 4, 3) := by decide +kernel
theorem dX9_isInView_36 : decode cX9_isInView 36 = .ok (.iconst 0, 1) := by decide +kernel
theorem dX9_isInView_37 : decode cX9_isInView 37 = .ok (.ireturn, 1) := by decide +kernel
theorem dX9_isInView_38 : decode cX9_isInView 38 = .ok (.aload_n 0, 1) := by decide +kernel
theorem dX9_isInView_39 : decode cX9_isInView 39 = .ok (.getfield 19, 3) := by decide +kernel
theorem dX9_isInView_42 : decode cX9_isInView 42 = .ok (.getfield 225, 3) := by decide +kernel
theorem dX9_isInView_45 : decode cX9_isInView 45 = .ok (.iload_n 2, 1) := by decide +kernel
theorem dX9_isInView_46 : decode cX9_isInView 46 = .ok (.invokestatic 209, 3) := by decide +kernel
theorem dX9_isInView_49 : decode cX9_isInView 49 = .ok (.ireturn, 1) := by decide +kernel
set_option maxRecDepth 20000 in
theorem ggX9_valueInView_X9_isIn : GoodIn wsX9_valueInView wsX9_isIn := goodIn_r _ [10] (by decide +kernel) (by decide +kernel)
set_option maxRecDepth 20000 in
theorem gX9_valueInView_X9_isIn : GoodIn wsX9_valueInView (va_wsS RX9 209 yX9_isIn wsX9_isIn) := goodIn_app (goodIn_of _ (by decide +kernel)) ggX9_valueInView_X9_isIn
theorem dX9_valueInView_0 : decode cX9_valueInView 0 = .ok (.aload_n 0, 1) := by decide +kernel
theorem dX9_valueInView_1 : decode cX9_valueInView 1 = .ok (.getfield 42, 3) := by decide +kernel
theorem dX9_valueInView_4 : decode cX9_valueInView 4 = .ok (.iload_n 1, 1) := by decide +kernel
theorem dX9_valueInView_5 : decode cX9_valueInView 5 = .ok (.aaload, 1) := by decide +kernel
theorem dX9_valueInView_6 : decode cX9_valueInView 6 = .ok (.getfield 142, 3) := by decide +kernel
theorem dX9_valueInView_9 : decode cX9_valueInView 9 = .ok (.astore_n 3, 1) := by decide +kernel
theorem dX9_valueInView_10 : decode cX9_valueInView 10 = .ok (.aload_n 3, 1) := by decide +kernel
theorem dX9_valueInView_11 : decode cX9_valueInView 11 = .ok (.getfield 216, 3) := by decide +kernel
theorem dX9_valueInView_14 : decode cX9_valueInView 14 = .ok (.iload_n 2, 1) := by decide +kernel
theorem dX9_valueInView_15 : decode cX9_valueInView 15 = .ok (.invokestatic 209, 3) := by decide +kernel
theorem dX9_valueInView_18 : decode cX9_valueInView 18 = .ok (.ifCond .eq 12, 3) := by decide +kernel
theorem dX9_valueInView_21 : decode cX9_valueInView 21 = .ok (.aload_n 3, 1) := by decide +kernel
theorem dX9_valueInView_22 : decode cX9_valueInView 22 = .ok (.getfield 219, 3) := by decide +kernel
theorem dX9_valueInView_25 : decode cX9_valueInView 25 = .ok (.iload_n 2, 1) := by decide +kernel
theorem dX9_valueInView_26 : decode cX9_valueInView 26 = .ok (.iaload, 1) := by decide +kernel
theorem dX9_valueInView_27 : decode cX9_valueInView 27 = .ok (.goto 12, 3) := by decide +kernel
theorem dX9_valueInView_30 : decode cX9_valueInView 30 = .ok (.aload_n 0, 1) := by decide +kernel
theorem dX9_valueInView_31 : decode cX9_valueInView 31 = .ok (.getfield 19, 3) := by decide +kernel
theorem dX9_valueInView_34 : decode cX9_valueInView 34 = .ok (.getfield 228, 3) := by decide +kernel
theorem dX9_valueInView_37 : decode cX9_valueInView 37 = .ok (.iload_n 2, 1) := by decide +kernel
theorem dX9_valueInView_38 : decode cX9_valueInView 38 = .ok (.iaload, 1) := by decide +kernel
theorem dX9_valueInView_39 : decode cX9_valueInView 39 = .ok (.ireturn, 1) := by decide +kernel
theorem dX9_leaveReadyOrder_0 : decode cX9_leaveReadyOrder 0 = .ok (.iconst 0, 1) := by decide +kernel
theorem dX9_leaveReadyOrder_1 : decode cX9_leaveReadyOrder 1 = .ok (.istore_n 2, 1) := by decide +kernel
theorem dX9_leaveReadyOrder_2 : decode cX9_leaveReadyOrder 2 = .ok (.iconst 0, 1) := by decide +kernel
theorem dX9_leaveReadyOrder_3 : decode cX9_leaveReadyOrder 3 = .ok (.istore_n 3, 1) := by decide +kernel
theorem dX9_leaveReadyOrder_4 : decode cX9_leaveReadyOrder 4 = .ok (.iload_n 3, 1) := by decide +kernel
theorem dX9_leaveReadyOrder_5 : decode cX9_leaveReadyOrder 5 = .ok (.aload_n 0, 1) := by decide +kernel
theorem dX9_leaveReadyOrder_6 : decode cX9_leaveReadyOrder 6 = .ok (.getfield 50, 3) := by decide +kernel
theorem dX9_leaveReadyOrder_9 : decode cX9_leaveReadyOrder 9 = .ok (.if_icmp .ge 34, 3) := by decide +kernel
theorem dX9_leaveReadyOrder_12 : decode cX9_leaveReadyOrder 12 = .ok (.aload_n 0, 1) := by decide +kernel
theorem dX9_leaveReadyOrder_13 : decode cX9_leaveReadyOrder 13 = .ok (.getfield 46, 3) := by decide +kernel
theorem dX9_leaveReadyOrder_16 : decode cX9_leaveReadyOrder 16 = .ok (.iload_n 3, 1) := by decide +kernel
theorem dX9_leaveReadyOrder_17 : decode cX9_leaveReadyOrder 17 = .ok (.iaload, 1) := by decide +kernel
theorem dX9_leaveReadyOrder_18 : decode cX9_leaveReadyOrder 18 = .ok (.iload_n 1, 1) := by decide +kernel
theorem dX9_leaveReadyOrder_19 : decode cX9_leaveReadyOrder 19 = .ok (.if_icmp .eq 18, 3) := by decide +kernel
theorem dX9_leaveReadyOrder_22 : decode cX9_leaveReadyOrder 22 = .ok (.aload_n 0, 1) := by decide +kernel
theorem dX9_leaveReadyOrder_23 : decode cX9_leaveReadyOrder 23 = .ok (.getfield 46, 3) := by decide +kernel
theorem dX9_leaveReadyOrder_26 : decode cX9_leaveReadyOrder 26 = .ok (.iload_n 2, 1) := by decide +kernel
theorem dX9_leaveReadyOrder_27 : decode cX9_leaveReadyOrder 27 = .ok (.aload_n 0, 1) := by decide +kernel
theorem dX9_leaveReadyOrder_28 : decode cX9_leaveReadyOrder 28 = .ok (.getfield 46, 3) := by decide +kernel
theorem dX9_leaveReadyOrder_31 : decode cX9_leaveReadyOrder 31 = .ok (.iload_n 3, 1) := by decide +kernel
theorem dX9_leaveReadyOrder_32 : decode cX9_leaveReadyOrder 32 = .ok (.iaload, 1) := by decide +kernel
theorem dX9_leaveReadyOrder_33 : decode cX9_leaveReadyOrder 33 = .ok (.iastore, 1) := by decide +kernel
theorem dX9_leaveReadyOrder_34 : decode cX9_leaveReadyOrder 34 = .ok (.iinc 2 1, 3) := by decide +kernel
theorem dX9_leaveReadyOrder_37 : decode cX9_leaveReadyOrder 37 = .ok (.iinc 3 1, 3) := by decide +kernel
theorem dX9_leaveReadyOrder_40 : decode cX9_leaveReadyOrder 40 = .ok (.goto (-36), 3) := by decide +kernel
theorem dX9_leaveReadyOrder_43 : decode cX9_leaveReadyOrder 43 = .ok (.aload_n 0, 1) := by decide +kernel
theorem dX9_leaveReadyOrder_44 : decode cX9_leaveReadyOrder 44 = .ok (.iload_n 2, 1) := by decide +kernel
theorem dX9_leaveReadyOrder_45 : decode cX9_leaveReadyOrder 45 = .ok (.putfield 50, 3) := by decide +kernel
theorem dX9_leaveReadyOrder_48 : decode cX9_leaveReadyOrder 48 = .ok (.return_, 1) := by decide +kernel
set_option maxRecDepth 20000 in
theorem ggX9_prepareNext_X0_clear : GoodIn wsX9_prepareNext wsX0_clear := goodIn_r _ [14, 15, 16, 85, 86, 87] (by decide +kernel) (by decide +kernel)
set_option maxRecDepth 20000 in
theorem gX9_prepareNext_X0_clear : GoodIn wsX9_prepareNext (wsV RX9 405 RX0 yX0_clear wsX0_clear) := goodIn_app (goodIn_of _ (by decide +kernel)) ggX9_prepareNext_X0_clear
set_option maxRecDepth 20000 in
theorem ggX9_prepareNext_X0_add : GoodIn wsX9_prepareNext wsX0_add := goodIn_r _ [20, 16, 15, 21, 22, 23, 24, 25, 26, 27, 13, 28, 29, 30, 31, 32, 33, 34, 35, 85, 86, 87] (by decide +kernel) (by decide +kernel)
set_option maxRecDepth 20000 in
theorem gX9_prepareNext_X0_add : GoodIn wsX9_prepareNext (wsV RX9 408 RX0 yX0_add wsX0_add) := goodIn_app (goodIn_of _ (by decide +kernel)) ggX9_prepareNext_X0_add
set_option maxRecDepth 20000 in
theorem ggX9_prepareNext_X8_copyFrom : GoodIn wsX9_prepareNext wsX8_copyFrom := goodIn_r _ [40, 41, 42, 43, 44, 45, 46, 47, 48, 49, 50, 79, 80, 81, 82, 83, 84] (by decide +kernel) (by decide +kernel)
set_option maxRecDepth 20000 in
theorem gX9_prepareNext_X8_copyFrom : GoodIn wsX9_prepareNext (wsV RX9 314 RX8 yX8_copyFrom wsX8_copyFrom) := goodIn_app (goodIn_of _ (by decide +kernel)) ggX9_prepareNext_X8_copyFrom
set_option maxRecDepth 20000 in
theorem ggX9_prepareNext_X8_apply : GoodIn wsX9_prepareNext wsX8_apply := goodIn_r _ [54, 55, 47, 56, 57, 46, 58, 22, 23, 24, 29, 30, 85, 86, 87, 79, 80, 81, 82, 83, 84] (by decide +kernel) (by decide +kernel)
set_option maxRecDepth 20000 in
theorem gX9_prepareNext_X8_apply : GoodIn wsX9_prepareNext (wsV RX9 411 RX8 yX8_apply wsX8_apply) := goodIn_app (goodIn_of _ (by decide +kernel)) ggX9_prepareNext_X8_apply
theorem dX9_prepareNext_0 : decode cX9_prepareNext 0 = .ok (.aload_n 0, 1) := by decide +kernel
theorem dX9_prepareNext_1 : decode cX9_prepareNext 1 = .ok (.getfield 29, 3) := by decide +kernel
theorem dX9_prepareNext_4 : decode cX9_prepareNext 4 = .ok (.invokevirtual 405, 3) := by decide +kernel
theorem dX9_prepareNext_7 : decode cX9_prepareNext 7 = .ok (.iconst 0, 1) := by decide +kernel
theorem dX9_prepareNext_8 : decode cX9_prepareNext 8 = .ok (.istore_n 1, 1) := by decide +kernel
theorem dX9_prepareNext_9 : decode cX9_prepareNext 9 = .ok (.iload_n 1, 1) := by decide +kernel
theorem dX9_prepareNext_10 : decode cX9_prepareNext 10 = .ok (.aload_n 0, 1) := by decide +kernel
theorem dX9_prepareNext_11 : decode cX9_prepareNext 11 = .ok (.getfield 50, 3) := by decide +kernel
theorem dX9_prepareNext_14 : decode cX9_prepareNext 14 = .ok (.if_icmp .ge 30, 3) := by decide +kernel
theorem dX9_prepareNext_17 : decode cX9_prepareNext 17 = .ok (.aload_n 0, 1) := by decide +kernel
theorem dX9_prepareNext_18 : decode cX9_prepareNext 18 = .ok (.getfield 29, 3) := by decide +kernel
theorem dX9_prepareNext_21 : decode cX9_prepareNext 21 = .ok (.aload_n 0, 1) := by decide +kernel
theorem dX9_prepareNext_22 : decode cX9_prepareNext 22 = .ok (.getfield 42, 3) := by decide +kernel
theorem dX9_prepareNext_25 : decode cX9_prepareNext 25 = .ok (.aload_n 0, 1) := by decide +kernel
theorem dX9_prepareNext_26 : decode cX9_prepareNext 26 = .ok (.getfield 46, 3) := by decide +kernel
theorem dX9_prepareNext_29 : decode cX9_prepareNext 29 = .ok (.iload_n 1, 1) := by decide +kernel
theorem dX9_prepareNext_30 : decode cX9_prepareNext 30 = .ok (.iaload, 1) := by decide +kernel
theorem dX9_prepareNext_31 : decode cX9_prepareNext 31 = .ok (.aaload, 1) := by decide +kernel
theorem dX9_prepareNext_32 : decode cX9_prepareNext 32 = .ok (.getfield 142, 3) := by decide +kernel
theorem dX9_prepareNext_35 : decode cX9_prepareNext 35 = .ok (.invokevirtual 408, 3) := by decide +kernel
theorem dX9_prepareNext_38 : decode cX9_prepareNext 38 = .ok (.iinc 1 1, 3) := by decide +kernel
theorem dX9_prepareNext_41 : decode cX9_prepareNext 41 = .ok (.goto (-32), 3) := by decide +kernel
theorem dX9_prepareNext_44 : decode cX9_prepareNext 44 = .ok (.aload_n 0, 1) := by decide +kernel
theorem dX9_prepareNext_45 : decode cX9_prepareNext 45 = .ok (.getfield 23, 3) := by decide +kernel
theorem dX9_prepareNext_48 : decode cX9_prepareNext 48 = .ok (.aload_n 0, 1) := by decide +kernel
theorem dX9_prepareNext_49 : decode cX9_prepareNext 49 = .ok (.getfield 19, 3) := by decide +kernel
theorem dX9_prepareNext_52 : decode cX9_prepareNext 52 = .ok (.invokevirtual 314, 3) := by decide +kernel
theorem dX9_prepareNext_55 : decode cX9_prepareNext 55 = .ok (.aload_n 0, 1) := by decide +kernel
theorem dX9_prepareNext_56 : decode cX9_prepareNext 56 = .ok (.getfield 23, 3) := by decide +kernel
theorem dX9_prepareNext_59 : decode cX9_prepareNext 59 = .ok (.aload_n 0, 1) := by decide +kernel
theorem dX9_prepareNext_60 : decode cX9_prepareNext 60 = .ok (.getfield 29, 3) := by decide +kernel
theorem dX9_prepareNext_63 : decode cX9_prepareNext 63 = .ok (.invokevirtual 411, 3) := by decide +kernel
theorem dX9_prepareNext_66 : decode cX9_prepareNext 66 = .ok (.aload_n 0, 1) := by decide +kernel
theorem dX9_prepareNext_67 : decode cX9_prepareNext 67 = .ok (.getfield 23, 3) := by decide +kernel
theorem dX9_prepareNext_70 : decode cX9_prepareNext 70 = .ok (.aload_n 0, 1) := by decide +kernel
theorem dX9_prepareNext_71 : decode cX9_prepareNext 71 = .ok (.getfield 19, 3) := by decide +kernel
theorem dX9_prepareNext_74 : decode cX9_prepareNext 74 = .ok (.getfield 101, 3) := by decide +kernel
theorem dX9_prepareNext_77 : decode cX9_prepareNext 77 = .ok (.iconst 1, 1) := by decide +kernel
theorem dX9_prepareNext_78 : decode cX9_prepareNext 78 = .ok (.iadd, 1) := by decide +kernel
theorem dX9_prepareNext_79 : decode cX9_prepareNext 79 = .ok (.putfield 101, 3) := by decide +kernel
theorem dX9_prepareNext_82 : decode cX9_prepareNext 82 = .ok (.aload_n 0, 1) := by decide +kernel
theorem dX9_prepareNext_83 : decode cX9_prepareNext 83 = .ok (.getfield 23, 3) := by decide +kernel
theorem dX9_prepareNext_86 : decode cX9_prepareNext 86 = .ok (.aload_n 0, 1) := by decide +kernel
theorem dX9_prepareNext_87 : decode cX9_prepareNext 87 = .ok (.getfield 23, 3) := by decide +kernel
theorem dX9_prepareNext_90 : decode cX9_prepareNext 90 = .ok (.getfield 101, 3) := by decide +kernel
theorem dX9_prepareNext_93 : decode cX9_prepareNext 93 = .ok (.iconst 2, 1) := by decide +kernel
theorem dX9_prepareNext_94 : decode cX9_prepareNext 94 = .ok (.irem, 1) := by decide +kernel
theorem dX9_prepareNext_95 : decode cX9_prepareNext 95 = .ok (.putfield 388, 3) := by decide +kernel
theorem dX9_prepareNext_98 : decode cX9_prepareNext 98 = .ok (.return_, 1) := by decide +kernel
set_option maxRecDepth 20000 in
theorem ggX9_isPageToWrite_X0_touchesPage : GoodIn wsX9_isPageToWrite wsX0_touchesPage := goodIn_r _ [7, 8, 9, 10, 11, 12, 13, 14, 15, 38, 39, 40] (by decide +kernel) (by decide +kernel)
set_option maxRecDepth 20000 in
theorem gX9_isPageToWrite_X0_touchesPage : GoodIn wsX9_isPageToWrite (wsV RX9 414 RX0 yX0_touchesPage wsX0_touchesPage) := goodIn_app (goodIn_of _ (by decide +kernel)) ggX9_isPageToWrite_X0_touchesPage
set_option maxRecDepth 20000 in
theorem ggX9_isPageToWrite_X8_bitsOf : GoodIn wsX9_isPageToWrite wsX8_bitsOf := goodIn_r _ [19, 20, 21, 10, 11, 12, 13, 14, 15, 41, 42, 43, 44, 45, 46] (by decide +kernel) (by decide +kernel)
set_option maxRecDepth 20000 in
theorem gX9_isPageToWrite_X8_bitsOf : GoodIn wsX9_isPageToWrite (wsV RX9 417 RX8 yX8_bitsOf wsX8_bitsOf) := goodIn_app (goodIn_of _ (by decide +kernel)) ggX9_isPageToWrite_X8_bitsOf
theorem dX9_isPageToWrite_0 : decode cX9_isPageToWrite 0 = .ok (.aload_n 0, 1) := by decide +kernel
theorem dX9_isPageToWrite_1 : decode cX9_isPageToWrite 1 = .ok (.getfield 29, 3) := by decide +kernel
theorem dX9_isPageToWrite_4 : decode cX9_isPageToWrite 4 = .ok (.iload_n 1, 1) := by decide +kernel
theorem dX9_isPageToWrite_5 : decode cX9_isPageToWrite 5 = .ok (.invokevirtual 414, 3) := by decide +kernel
theorem dX9_isPageToWrite_8 : decode cX9_isPageToWrite 8 = .ok (.ifCond .eq 18, 3) := by decide +kernel
theorem dX9_isPageToWrite_11 : decode cX9_isPageToWrite 11 = .ok (.aload_n 0, 1) := by decide +kernel
theorem dX9_isPageToWrite_12 : decode cX9_isPageToWrite 12 = .ok (.getfield 23, 3) := by decide +kernel
theorem dX9_isPageToWrite_15 : decode cX9_isPageToWrite 15 = .ok (.iload_n 1, 1) := by decide +kernel
theorem dX9_isPageToWrite_16 : decode cX9_isPageToWrite 16 = .ok (.invokevirtual 417, 3) := by decide +kernel
theorem dX9_isPageToWrite_19 : decode cX9_isPageToWrite 19 = .ok (.ifCond .eq 7, 3) := by decide +kernel
theorem dX9_isPageToWrite_22 : decode cX9_isPageToWrite 22 = .ok (.iconst 1, 1) := by decide +kernel
theorem dX9_isPageToWrite_23 : decode cX9_isPageToWrite 23 = .ok (.goto 4, 3) := by decide +kernel
theorem dX9_isPageToWrite_26 : decode cX9_isPageToWrite 26 = .ok (.iconst 0, 1) := by decide +kernel
theorem dX9_isPageToWrite_27 : decode cX9_isPageToWrite 27 = .ok (.ireturn, 1) := by decide +kernel
set_option maxRecDepth 20000 in
theorem ggX9_dataBlocksOfNext_X9_isPageToWrite : GoodIn wsX9_dataBlocksOfNext wsX9_isPageToWrite := goodIn_r _ [5, 6, 7, 8, 9, 10, 11, 12, 13, 14, 15, 16, 17, 18, 4, 19, 20, 21, 22, 23, 24, 25, 26, 27, 28, 29, 30, 31, 32, 33, 34, 35, 36, 37, 38, 39, 40, 41, 42, 43, 44, 45, 46, 47, 48, 49, 50] (by decide +kernel) (by decide +kernel)
set_option maxRecDepth 20000 in
theorem gX9_dataBlocksOfNext_X9_isPageToWrite : GoodIn wsX9_dataBlocksOfNext (wsV RX9 420 RX9 yX9_isPageToWrite wsX9_isPageToWrite) := goodIn_app (goodIn_of _ (by decide +kernel)) ggX9_dataBlocksOfNext_X9_isPageToWrite
theorem dX9_dataBlocksOfNext_0 : decode cX9_dataBlocksOfNext 0 = .ok (.iconst 1, 1) := by decide +kernel
theorem dX9_dataBlocksOfNext_1 : decode cX9_dataBlocksOfNext 1 = .ok (.istore_n 1, 1) := by decide +kernel
theorem dX9_dataBlocksOfNext_2 : decode cX9_dataBlocksOfNext 2 = .ok (.iconst 0, 1) := by decide +kernel
theorem dX9_dataBlocksOfNext_3 : decode cX9_dataBlocksOfNext 3 = .ok (.istore_n 2, 1) := by decide +kernel
theorem dX9_dataBlocksOfNext_4 : decode cX9_dataBlocksOfNext 4 = .ok (.iload_n 2, 1) := by decide +kernel
theorem dX9_dataBlocksOfNext_5 : decode cX9_dataBlocksOfNext 5 = .ok (.bipush 8, 2) := by decide +kernel
theorem dX9_dataBlocksOfNext_7 : decode cX9_dataBlocksOfNext 7 = .ok (.if_icmp .ge 20, 3) := by decide +kernel
theorem dX9_dataBlocksOfNext_10 : decode cX9_dataBlocksOfNext 10 = .ok (.aload_n 0, 1) := by decide +kernel
theorem dX9_dataBlocksOfNext_11 : decode cX9_dataBlocksOfNext 11 = .ok (.iload_n 2, 1) := by decide +kernel
theorem dX9_dataBlocksOfNext_12 : decode cX9_dataBlocksOfNext 12 = .ok (.invokevirtual 420, 3) := by decide +kernel
theorem dX9_dataBlocksOfNext_15 : decode cX9_dataBlocksOfNext 15 = .ok (.ifCond .eq 6, 3) := by decide +kernel
theorem dX9_dataBlocksOfNext_18 : decode cX9_dataBlocksOfNext 18 = .ok (.iinc 1 1, 3) := by decide +kernel
theorem dX9_dataBlocksOfNext_21 : decode cX9_dataBlocksOfNext 21 = .ok (.iinc 2 1, 3) := by decide +kernel
theorem dX9_dataBlocksOfNext_24 : decode cX9_dataBlocksOfNext 24 = .ok (.goto (-20), 3) := by decide +kernel
theorem dX9_dataBlocksOfNext_27 : decode cX9_dataBlocksOfNext 27 = .ok (.iload_n 1, 1) := by decide +kernel
theorem dX9_dataBlocksOfNext_28 : decode cX9_dataBlocksOfNext 28 = .ok (.ireturn, 1) := by decide +kernel
set_option maxRecDepth 20000 in
theorem ggX9_placeNext_X9_freeBlocks : GoodIn wsX9_placeNext wsX9_freeBlocks := goodIn_r _ [9, 10, 11, 12, 13, 14, 15, 8, 16, 17, 18, 19, 20, 21, 22, 23, 49, 50, 51, 52, 53, 54, 55, 56, 57, 58, 59, 60, 61, 62, 63, 64, 65, 66, 67, 68, 69, 70] (by decide +kernel) (by decide +kernel)
set_option maxRecDepth 20000 in
theorem gX9_placeNext_X9_freeBlocks : GoodIn wsX9_placeNext (wsV RX9 254 RX9 yX9_freeBlocks wsX9_freeBlocks) := goodIn_app (goodIn_of _ (by decide +kernel)) ggX9_placeNext_X9_freeBlocks
set_option maxRecDepth 20000 in
theorem ggX9_placeNext_X9_isPageToWrite : GoodIn wsX9_placeNext wsX9_isPageToWrite := goodIn_r _ [27, 3, 1, 28, 29, 30, 31, 32, 33, 34, 35, 20, 36, 37, 8, 38, 39, 40, 41, 42, 43, 44, 49, 50, 51, 52, 53, 54, 55, 56, 57, 58, 59, 60, 61, 62, 63, 64, 71, 72, 73, 65, 66, 67, 68, 69, 70] (by decide +kernel) (by decide +kernel)
set_option maxRecDepth 20000 in
theorem gX9_placeNext_X9_isPageToWrite : GoodIn wsX9_placeNext (wsV RX9 420 RX9 yX9_isPageToWrite wsX9_isPageToWrite) := goodIn_app (goodIn_of _ (by decide +kernel)) ggX9_placeNext_X9_isPageToWrite
set_option maxRecDepth 20000 in
theorem ggX9_placeNext_X9_memberAt : GoodIn wsX9_placeNext wsX9_memberAt := goodIn_r _ [47, 48, 37, 8, 38] (by decide +kernel) (by decide +kernel)
set_option maxRecDepth 20000 in
theorem gX9_placeNext_X9_memberAt : GoodIn wsX9_placeNext (va_wsS RX9 291 yX9_memberAt wsX9_memberAt) := goodIn_app (goodIn_of _ (by decide +kernel)) ggX9_placeNext_X9_memberAt
set_option maxRecDepth 20000 in
theorem ggX9_placeNext_X0_touchesPage : GoodIn wsX9_placeNext wsX0_touchesPage := goodIn_r _ [32, 33, 34, 35, 20, 36, 37, 8, 38, 71, 72, 73] (by decide +kernel) (by decide +kernel)
set_option maxRecDepth 20000 in
theorem gX9_placeNext_X0_touchesPage : GoodIn wsX9_placeNext (wsV RX9 414 RX0 yX0_touchesPage wsX0_touchesPage) := goodIn_app (goodIn_of _ (by decide +kernel)) ggX9_placeNext_X0_touchesPage
theorem dX9_placeNext_0 : decode cX9_placeNext 0 = .ok (.aload_n 0, 1) := by decide +kernel
theorem dX9_placeNext_1 : decode cX9_placeNext 1 = .ok (.invokevirtual 254, 3) := by decide +kernel
theorem dX9_placeNext_4 : decode cX9_placeNext 4 = .ok (.lstore_n 1, 1) := by decide +kernel
theorem dX9_placeNext_5 : decode cX9_placeNext 5 = .ok (.iconst 0, 1) := by decide +kernel
theorem dX9_placeNext_6 : decode cX9_placeNext 6 = .ok (.istore_n 3, 1) := by decide +kernel
theorem dX9_placeNext_7 : decode cX9_placeNext 7 = .ok (.iconst 0, 1) := by decide +kernel
theorem dX9_placeNext_8 : decode cX9_placeNext 8 = .ok (.istore 4, 2) := by decide +kernel
theorem dX9_placeNext_10 : decode cX9_placeNext 10 = .ok (.iload 4, 2) := by decide +kernel
theorem dX9_placeNext_12 : decode cX9_placeNext 12 = .ok (.bipush 8, 2) := by decide +kernel
theorem dX9_placeNext_14 : decode cX9_placeNext 14 = .ok (.if_icmp .ge 62, 3) := by decide +kernel
theorem dX9_placeNext_17 : decode cX9_placeNext 17 = .ok (.aload_n 0, 1) := by decide +kernel
theorem dX9_placeNext_18 : decode cX9_placeNext 18 = .ok (.iload 4, 2) := by decide +kernel
theorem dX9_placeNext_20 : decode cX9_placeNext 20 = .ok (.invokevirtual 420, 3) := by decide +kernel
theorem dX9_placeNext_23 : decode cX9_placeNext 23 = .ok (.ifCond .eq 24, 3) := by decide +kernel
theorem dX9_placeNext_26 : decode cX9_placeNext 26 = .ok (.aload_n 0, 1) := by decide +kernel
theorem dX9_placeNext_27 : decode cX9_placeNext 27 = .ok (.getfield 23, 3) := by decide +kernel
theorem dX9_placeNext_30 : decode cX9_placeNext 30 = .ok (.getfield 297, 3) := by decide +kernel
theorem dX9_placeNext_33 : decode cX9_placeNext 33 = .ok (.iload 4, 2) := by decide +kernel
theorem dX9_placeNext_35 : decode cX9_placeNext 35 = .ok (.lload_n 1, 1) := by decide +kernel
theorem dX9_placeNext_36 : decode cX9_placeNext 36 = .ok (.iload_n 3, 1) := by decide +kernel
theorem dX9_placeNext_37 : decode cX9_placeNext 37 = .ok (.invokestatic 291, 3) := by decide +kernel
theorem dX9_placeNext_40 : decode cX9_placeNext 40 = .ok (.iastore, 1) := by decide +kernel
theorem dX9_placeNext_41 : decode cX9_placeNext 41 = .ok (.iinc 3 1, 3) := by decide +kernel
theorem dX9_placeNext_44 : decode cX9_placeNext 44 = .ok (.goto 26, 3) := by decide +kernel
theorem dX9_placeNext_47 : decode cX9_placeNext 47 = .ok (.aload_n 0, 1) := by decide +kernel
theorem dX9_placeNext_48 : decode cX9_placeNext 48 = .ok (.getfield 29, 3) := by decide +kernel
theorem dX9_placeNext_51 : decode cX9_placeNext 51 = .ok (.iload 4, 2) := by decide +kernel
theorem dX9_placeNext_53 : decode cX9_placeNext 53 = .ok (.invokevirtual 414, 3) := by decide +kernel
theorem dX9_placeNext_56 : decode cX9_placeNext 56 = .ok (.ifCond .eq 14, 3) := by decide +kernel
theorem dX9_placeNext_59 : decode cX9_placeNext 59 = .ok (.aload_n 0, 1) := by decide +kernel
theorem dX9_placeNext_60 : decode cX9_placeNext 60 = .ok (.getfield 23, 3) := by decide +kernel
theorem dX9_placeNext_63 : decode cX9_placeNext 63 = .ok (.getfield 297, 3) := by decide +kernel
theorem dX9_placeNext_66 : decode cX9_placeNext 66 = .ok (.iload 4, 2) := by decide +kernel
theorem dX9_placeNext_68 : decode cX9_placeNext 68 = .ok (.iconst (-1), 1) := by decide +kernel
theorem dX9_placeNext_69 : decode cX9_placeNext 69 = .ok (.iastore, 1) := by decide +kernel
theorem dX9_placeNext_70 : decode cX9_placeNext 70 = .ok (.iinc 4 1, 3) := by decide +kernel
theorem dX9_placeNext_73 : decode cX9_placeNext 73 = .ok (.goto (-63), 3) := by decide +kernel
theorem dX9_placeNext_76 : decode cX9_placeNext 76 = .ok (.aload_n 0, 1) := by decide +kernel
theorem dX9_placeNext_77 : decode cX9_placeNext 77 = .ok (.getfield 23, 3) := by decide +kernel
theorem dX9_placeNext_80 : decode cX9_placeNext 80 = .ok (.lload_n 1, 1) := by decide +kernel
theorem dX9_placeNext_81 : decode cX9_placeNext 81 = .ok (.iload_n 3, 1) := by decide +kernel
theorem dX9_placeNext_82 : decode cX9_placeNext 82 = .ok (.invokestatic 291, 3) := by decide +kernel
theorem dX9_placeNext_85 : decode cX9_placeNext 85 = .ok (.putfield 379, 3) := by decide +kernel
theorem dX9_placeNext_88 : decode cX9_placeNext 88 = .ok (.return_, 1) := by decide +kernel
set_option maxRecDepth 20000 in
theorem ggX9_writeNext_X5_start : GoodIn wsX9_writeNext wsX5_start := goodIn_r _ [12, 13, 14, 15, 109, 110, 111] (by decide +kernel) (by decide +kernel)
set_option maxRecDepth 20000 in
theorem gX9_writeNext_X5_start : GoodIn wsX9_writeNext (wsV RX9 423 RX5 yX5_start wsX5_start) := goodIn_app (goodIn_of _ (by decide +kernel)) ggX9_writeNext_X5_start
set_option maxRecDepth 20000 in
theorem ggX9_writeNext_X9_isPageToWrite : GoodIn wsX9_writeNext wsX9_isPageToWrite := goodIn_r _ [20, 21, 2, 22, 23, 24, 25, 26, 27, 28, 29, 30, 31, 32, 19, 33, 34, 35, 36, 37, 38, 39, 85, 86, 87, 88, 89, 90, 91, 92, 93, 94, 95, 96, 97, 98, 99, 100, 112, 113, 114, 103, 104, 105, 106, 107, 108] (by decide +kernel) (by decide +kernel)
set_option maxRecDepth 20000 in
theorem gX9_writeNext_X9_isPageToWrite : GoodIn wsX9_writeNext (wsV RX9 420 RX9 yX9_isPageToWrite wsX9_isPageToWrite) := goodIn_app (goodIn_of _ (by decide +kernel)) ggX9_writeNext_X9_isPageToWrite
set_option maxRecDepth 20000 in
theorem ggX9_writeNext_X8_describePage : GoodIn wsX9_writeNext wsX8_describePage := goodIn_r _ [43, 44, 38, 45, 46, 47, 48, 49, 50, 35, 36, 30, 37, 39, 29, 31, 32, 19, 33, 103, 104, 105, 106, 107, 108] (by decide +kernel) (by decide +kernel)
set_option maxRecDepth 20000 in
theorem gX9_writeNext_X8_describePage : GoodIn wsX9_writeNext (wsV RX9 426 RX8 yX8_describePage wsX8_describePage) := goodIn_app (goodIn_of _ (by decide +kernel)) ggX9_writeNext_X8_describePage
set_option maxRecDepth 20000 in
theorem ggX9_writeNext_X5_write : GoodIn wsX9_writeNext wsX5_write := goodIn_r _ [54, 13, 14, 15, 55, 56, 57, 58, 59, 60, 61, 62, 63, 64, 65, 66, 67, 68, 69, 70, 71, 72, 73, 109, 110, 111, 101, 102] (by decide +kernel) (by decide +kernel)
set_option maxRecDepth 20000 in
theorem gX9_writeNext_X5_write : GoodIn wsX9_writeNext (wsV RX9 430 RX5 yX5_write wsX5_write) := goodIn_app (goodIn_of _ (by decide +kernel)) ggX9_writeNext_X5_write
set_option maxRecDepth 20000 in
theorem ggX9_writeNext_X8_describeTable : GoodIn wsX9_writeNext wsX8_describeTable := goodIn_r _ [77, 44, 78, 79, 63, 64, 65, 46, 47, 48, 49, 103, 104, 105, 106, 107, 108] (by decide +kernel) (by decide +kernel)
set_option maxRecDepth 20000 in
theorem gX9_writeNext_X8_describeTable : GoodIn wsX9_writeNext (wsV RX9 375 RX8 yX8_describeTable wsX8_describeTable) := goodIn_app (goodIn_of _ (by decide +kernel)) ggX9_writeNext_X8_describeTable
set_option maxRecDepth 20000 in
theorem ggX9_writeNext_X8_describeRoot : GoodIn wsX9_writeNext wsX8_describeRoot := goodIn_r _ [83, 44, 84, 46, 47, 48, 49, 103, 104, 105, 106, 107, 108] (by decide +kernel) (by decide +kernel)
set_option maxRecDepth 20000 in
theorem gX9_writeNext_X8_describeRoot : GoodIn wsX9_writeNext (wsV RX9 385 RX8 yX8_describeRoot wsX8_describeRoot) := goodIn_app (goodIn_of _ (by decide +kernel)) ggX9_writeNext_X8_describeRoot
theorem dX9_writeNext_0 : decode cX9_writeNext 0 = .ok (.aload_n 0, 1) := by decide +kernel
theorem dX9_writeNext_1 : decode cX9_writeNext 1 = .ok (.getfield 36, 3) := by decide +kernel
theorem dX9_writeNext_4 : decode cX9_writeNext 4 = .ok (.iload_n 1, 1) := by decide +kernel
theorem dX9_writeNext_5 : decode cX9_writeNext 5 = .ok (.invokevirtual 423, 3) := by decide +kernel
theorem dX9_writeNext_8 : decode cX9_writeNext 8 = .ok (.iconst 0, 1) := by decide +kernel
theorem dX9_writeNext_9 : decode cX9_writeNext 9 = .ok (.istore_n 2, 1) := by decide +kernel
theorem dX9_writeNext_10 : decode cX9_writeNext 10 = .ok (.iload_n 2, 1) := by decide +kernel
theorem dX9_writeNext_11 : decode cX9_writeNext 11 = .ok (.bipush 8, 2) := by decide +kernel
theorem dX9_writeNext_13 : decode cX9_writeNext 13 = .ok (.if_icmp .ge 52, 3) := by decide +kernel
theorem dX9_writeNext_16 : decode cX9_writeNext 16 = .ok (.aload_n 0, 1) := by decide +kernel
theorem dX9_writeNext_17 : decode cX9_writeNext 17 = .ok (.iload_n 2, 1) := by decide +kernel
theorem dX9_writeNext_18 : decode cX9_writeNext 18 = .ok (.invokevirtual 420, 3) := by decide +kernel
theorem dX9_writeNext_21 : decode cX9_writeNext 21 = .ok (.ifCond .eq 38, 3) := by decide +kernel
theorem dX9_writeNext_24 : decode cX9_writeNext 24 = .ok (.aload_n 0, 1) := by decide +kernel
theorem dX9_writeNext_25 : decode cX9_writeNext 25 = .ok (.getfield 23, 3) := by decide +kernel
theorem dX9_writeNext_28 : decode cX9_writeNext 28 = .ok (.iload_n 2, 1) := by decide +kernel
theorem dX9_writeNext_29 : decode cX9_writeNext 29 = .ok (.aload_n 0, 1) := by decide +kernel
theorem dX9_writeNext_30 : decode cX9_writeNext 30 = .ok (.getfield 10, 3) := by decide +kernel
theorem dX9_writeNext_33 : decode cX9_writeNext 33 = .ok (.getfield 372, 3) := by decide +kernel
theorem dX9_writeNext_36 : decode cX9_writeNext 36 = .ok (.invokevirtual 426, 3) := by decide +kernel
theorem dX9_writeNext_39 : decode cX9_writeNext 39 = .ok (.aload_n 0, 1) := by decide +kernel
theorem dX9_writeNext_40 : decode cX9_writeNext 40 = .ok (.getfield 36, 3) := by decide +kernel
theorem dX9_writeNext_43 : decode cX9_writeNext 43 = .ok (.aload_n 0, 1) := by decide +kernel
theorem dX9_writeNext_44 : decode cX9_writeNext 44 = .ok (.getfield 10, 3) := by decide +kernel
theorem dX9_writeNext_47 : decode cX9_writeNext 47 = .ok (.aload_n 0, 1) := by decide +kernel
theorem dX9_writeNext_48 : decode cX9_writeNext 48 = .ok (.getfield 23, 3) := by decide +kernel
theorem dX9_writeNext_51 : decode cX9_writeNext 51 = .ok (.getfield 297, 3) := by decide +kernel
theorem dX9_writeNext_54 : decode cX9_writeNext 54 = .ok (.iload_n 2, 1) := by decide +kernel
theorem dX9_writeNext_55 : decode cX9_writeNext 55 = .ok (.iaload, 1) := by decide +kernel
theorem dX9_writeNext_56 : decode cX9_writeNext 56 = .ok (.invokevirtual 430, 3) := by decide +kernel
theorem dX9_writeNext_59 : decode cX9_writeNext 59 = .ok (.iinc 2 1, 3) := by decide +kernel
theorem dX9_writeNext_62 : decode cX9_writeNext 62 = .ok (.goto (-52), 3) := by decide +kernel
theorem dX9_writeNext_65 : decode cX9_writeNext 65 = .ok (.aload_n 0, 1) := by decide +kernel
theorem dX9_writeNext_66 : decode cX9_writeNext 66 = .ok (.getfield 23, 3) := by decide +kernel
theorem dX9_writeNext_69 : decode cX9_writeNext 69 = .ok (.aload_n 0, 1) := by decide +kernel
theorem dX9_writeNext_70 : decode cX9_writeNext 70 = .ok (.getfield 10, 3) := by decide +kernel
theorem dX9_writeNext_73 : decode cX9_writeNext 73 = .ok (.getfield 372, 3) := by decide +kernel
theorem dX9_writeNext_76 : decode cX9_writeNext 76 = .ok (.invokevirtual 375, 3) := by decide +kernel
theorem dX9_writeNext_79 : decode cX9_writeNext 79 = .ok (.aload_n 0, 1) := by decide +kernel
theorem dX9_writeNext_80 : decode cX9_writeNext 80 = .ok (.getfield 36, 3) := by decide +kernel
theorem dX9_writeNext_83 : decode cX9_writeNext 83 = .ok (.aload_n 0, 1) := by decide +kernel
theorem dX9_writeNext_84 : decode cX9_writeNext 84 = .ok (.getfield 10, 3) := by decide +kernel
theorem dX9_writeNext_87 : decode cX9_writeNext 87 = .ok (.aload_n 0, 1) := by decide +kernel
theorem dX9_writeNext_88 : decode cX9_writeNext 88 = .ok (.getfield 23, 3) := by decide +kernel
theorem dX9_writeNext_91 : decode cX9_writeNext 91 = .ok (.getfield 379, 3) := by decide +kernel
theorem dX9_writeNext_94 : decode cX9_writeNext 94 = .ok (.invokevirtual 430, 3) := by decide +kernel
theorem dX9_writeNext_97 : decode cX9_writeNext 97 = .ok (.aload_n 0, 1) := by decide +kernel
theorem dX9_writeNext_98 : decode cX9_writeNext 98 = .ok (.getfield 23, 3) := by decide +kernel
theorem dX9_writeNext_101 : decode cX9_writeNext 101 = .ok (.aload_n 0, 1) := by decide +kernel
theorem dX9_writeNext_102 : decode cX9_writeNext 102 = .ok (.getfield 10, 3) := by decide +kernel
theorem dX9_writeNext_105 : decode cX9_writeNext 105 = .ok (.getfield 372, 3) := by decide +kernel
theorem dX9_writeNext_108 : decode cX9_writeNext 108 = .ok (.invokevirtual 385, 3) := by decide +kernel
theorem dX9_writeNext_111 : decode cX9_writeNext 111 = .ok (.aload_n 0, 1) := by decide +kernel
theorem dX9_writeNext_112 : decode cX9_writeNext 112 = .ok (.getfield 36, 3) := by decide +kernel
theorem dX9_writeNext_115 : decode cX9_writeNext 115 = .ok (.aload_n 0, 1) := by decide +kernel
theorem dX9_writeNext_116 : decode cX9_writeNext 116 = .ok (.getfield 10, 3) := by decide +kernel
theorem dX9_writeNext_119 : decode cX9_writeNext 119 = .ok (.aload_n 0, 1) := by decide +kernel
theorem dX9_writeNext_120 : decode cX9_writeNext 120 = .ok (.getfield 23, 3) := by decide +kernel
theorem dX9_writeNext_123 : decode cX9_writeNext 123 = .ok (.getfield 388, 3) := by decide +kernel
theorem dX9_writeNext_126 : decode cX9_writeNext 126 = .ok (.invokevirtual 430, 3) := by decide +kernel
theorem dX9_writeNext_129 : decode cX9_writeNext 129 = .ok (.return_, 1) := by decide +kernel
set_option maxRecDepth 20000 in
theorem ggX9_endCommit_X0_countPages : GoodIn wsX9_endCommit wsX0_countPages := goodIn_r _ [16, 17, 18, 19, 15, 20, 21, 22, 23, 24, 25, 26, 27, 28, 100, 101, 102] (by decide +kernel) (by decide +kernel)
set_option maxRecDepth 20000 in
theorem gX9_endCommit_X0_countPages : GoodIn wsX9_endCommit (wsV RX9 436 RX0 yX0_countPages wsX0_countPages) := goodIn_app (goodIn_of _ (by decide +kernel)) ggX9_endCommit_X0_countPages
set_option maxRecDepth 20000 in
theorem ggX9_endCommit_X3_append : GoodIn wsX9_endCommit wsX3_append := goodIn_r _ [33, 34, 35, 36, 37, 38, 39, 103, 104] (by decide +kernel) (by decide +kernel)
set_option maxRecDepth 20000 in
theorem gX9_endCommit_X3_append : GoodIn wsX9_endCommit (wsV RX9 442 RX3 yX3_append wsX3_append) := goodIn_app (goodIn_of _ (by decide +kernel)) ggX9_endCommit_X3_append
set_option maxRecDepth 20000 in
theorem ggX9_endCommit_X9_endSlotsAndPins : GoodIn wsX9_endCommit wsX9_endSlotsAndPins := goodIn_r _ [43, 44, 6, 45, 46, 47, 48, 49, 50, 51, 52, 53, 54, 55, 56, 15, 57, 21, 58, 75, 76, 77, 78, 79, 80, 81, 82, 83, 84, 85, 86, 87, 88, 89, 90, 105, 106, 107, 108, 100, 101, 102] (by decide +kernel) (by decide +kernel)
set_option maxRecDepth 20000 in
theorem gX9_endCommit_X9_endSlotsAndPins : GoodIn wsX9_endCommit (wsV RX9 104 RX9 yX9_endSlotsAndPins wsX9_endSlotsAndPins) := goodIn_app (goodIn_of _ (by decide +kernel)) ggX9_endCommit_X9_endSlotsAndPins
set_option maxRecDepth 20000 in
theorem ggX9_endCommit_X8_copyFrom : GoodIn wsX9_endCommit wsX8_copyFrom := goodIn_r _ [62, 63, 64, 36, 37, 38, 65, 66, 67, 68, 69, 94, 95, 96, 97, 98, 99] (by decide +kernel) (by decide +kernel)
set_option maxRecDepth 20000 in
theorem gX9_endCommit_X8_copyFrom : GoodIn wsX9_endCommit (wsV RX9 314 RX8 yX8_copyFrom wsX8_copyFrom) := goodIn_app (goodIn_of _ (by decide +kernel)) ggX9_endCommit_X8_copyFrom
set_option maxRecDepth 20000 in
theorem ggX9_endCommit_X9_endReadySlots : GoodIn wsX9_endCommit wsX9_endReadySlots := goodIn_r _ [73, 6, 44, 74, 46, 47, 48, 49, 50, 51, 52, 53, 54, 55, 56, 15, 57, 21, 58, 75, 76, 77, 78, 79, 80, 81, 82, 83, 84, 85, 86, 87, 88, 89, 90, 105, 106, 107, 108, 100, 101, 102] (by decide +kernel) (by decide +kernel)
set_option maxRecDepth 20000 in
theorem gX9_endCommit_X9_endReadySlots : GoodIn wsX9_endCommit (wsV RX9 445 RX9 yX9_endReadySlots wsX9_endReadySlots) := goodIn_app (goodIn_of _ (by decide +kernel)) ggX9_endCommit_X9_endReadySlots
theorem dX9_endCommit_0 : decode cX9_endCommit 0 = .ok (.aload_n 0, 1) := by decide +kernel
theorem dX9_endCommit_1 : decode cX9_endCommit 1 = .ok (.getfield 36, 3) := by decide +kernel
theorem dX9_endCommit_4 : decode cX9_endCommit 4 = .ok (.getfield 433, 3) := by decide +kernel
theorem dX9_endCommit_7 : decode cX9_endCommit 7 = .ok (.ifCond .le 7, 3) := by decide +kernel
theorem dX9_endCommit_10 : decode cX9_endCommit 10 = .ok (.iconst 1, 1) := by decide +kernel
theorem dX9_endCommit_11 : decode cX9_endCommit 11 = .ok (.goto 4, 3) := by decide +kernel
theorem dX9_endCommit_14 : decode cX9_endCommit 14 = .ok (.iconst 0, 1) := by decide +kernel
theorem dX9_endCommit_15 : decode cX9_endCommit 15 = .ok (.istore_n 1, 1) := by decide +kernel
theorem dX9_endCommit_16 : decode cX9_endCommit 16 = .ok (.iload_n 1, 1) := by decide +kernel
theorem dX9_endCommit_17 : decode cX9_endCommit 17 = .ok (.ifCond .eq 7, 3) := by decide +kernel
theorem dX9_endCommit_20 : decode cX9_endCommit 20 = .ok (.iconst (-1), 1) := by decide +kernel
theorem dX9_endCommit_21 : decode cX9_endCommit 21 = .ok (.goto 10, 3) := by decide +kernel
theorem dX9_endCommit_24 : decode cX9_endCommit 24 = .ok (.aload_n 0, 1) := by decide +kernel
theorem dX9_endCommit_25 : decode cX9_endCommit 25 = .ok (.getfield 23, 3) := by decide +kernel
theorem dX9_endCommit_28 : decode cX9_endCommit 28 = .ok (.getfield 101, 3) := by decide +kernel
theorem dX9_endCommit_31 : decode cX9_endCommit 31 = .ok (.istore_n 2, 1) := by decide +kernel
theorem dX9_endCommit_32 : decode cX9_endCommit 32 = .ok (.aload_n 0, 1) := by decide +kernel
theorem dX9_endCommit_33 : decode cX9_endCommit 33 = .ok (.getfield 79, 3) := by decide +kernel
theorem dX9_endCommit_36 : decode cX9_endCommit 36 = .ok (.iload_n 2, 1) := by decide +kernel
theorem dX9_endCommit_37 : decode cX9_endCommit 37 = .ok (.aload_n 0, 1) := by decide +kernel
theorem dX9_endCommit_38 : decode cX9_endCommit 38 = .ok (.getfield 50, 3) := by decide +kernel
theorem dX9_endCommit_41 : decode cX9_endCommit 41 = .ok (.aload_n 0, 1) := by decide +kernel
theorem dX9_endCommit_42 : decode cX9_endCommit 42 = .ok (.getfield 29, 3) := by decide +kernel
theorem dX9_endCommit_45 : decode cX9_endCommit 45 = .ok (.invokevirtual 436, 3) := by decide +kernel
theorem dX9_endCommit_48 : decode cX9_endCommit 48 = .ok (.aload_n 0, 1) := by decide +kernel
theorem dX9_endCommit_49 : decode cX9_endCommit 49 = .ok (.getfield 36, 3) := by decide +kernel
theorem dX9_endCommit_52 : decode cX9_endCommit 52 = .ok (.getfield 439, 3) := by decide +kernel
theorem dX9_endCommit_55 : decode cX9_endCommit 55 = .ok (.invokevirtual 442, 3) := by decide +kernel
theorem dX9_endCommit_58 : decode cX9_endCommit 58 = .ok (.aload_n 0, 1) := by decide +kernel
theorem dX9_endCommit_59 : decode cX9_endCommit 59 = .ok (.getfield 90, 3) := by decide +kernel
theorem dX9_endCommit_62 : decode cX9_endCommit 62 = .ok (.iconst 2, 1) := by decide +kernel
theorem dX9_endCommit_63 : decode cX9_endCommit 63 = .ok (.dup2, 1) := by decide +kernel
theorem dX9_endCommit_64 : decode cX9_endCommit 64 = .ok (.iaload, 1) := by decide +kernel
theorem dX9_endCommit_65 : decode cX9_endCommit 65 = .ok (.aload_n 0, 1) := by decide +kernel
theorem dX9_endCommit_66 : decode cX9_endCommit 66 = .ok (.getfield 36, 3) := by decide +kernel
theorem dX9_endCommit_69 : decode cX9_endCommit 69 = .ok (.getfield 439, 3) := by decide +kernel
theorem dX9_endCommit_72 : decode cX9_endCommit 72 = .ok (.iadd, 1) := by decide +kernel
theorem dX9_endCommit_73 : decode cX9_endCommit 73 = .ok (.iastore, 1) := by decide +kernel
theorem dX9_endCommit_74 : decode cX9_endCommit 74 = .ok (.aload_n 0, 1) := by decide +kernel
theorem dX9_endCommit_75 : decode cX9_endCommit 75 = .ok (.getfield 90, 3) := by decide +kernel
theorem dX9_endCommit_78 : decode cX9_endCommit 78 = .ok (.iconst 3, 1) := by decide +kernel
theorem dX9_endCommit_79 : decode cX9_endCommit 79 = .ok (.dup2, 1) := by decide +kernel
theorem dX9_endCommit_80 : decode cX9_endCommit 80 = .ok (.iaload, 1) := by decide +kernel
theorem dX9_endCommit_81 : decode cX9_endCommit 81 = .ok (.aload_n 0, 1) := by decide +kernel
theorem dX9_endCommit_82 : decode cX9_endCommit 82 = .ok (.getfield 36, 3) := by decide +kernel
theorem dX9_endCommit_85 : decode cX9_endCommit 85 = .ok (.getfield 433, 3) := by decide +kernel
theorem dX9_endCommit_88 : decode cX9_endCommit 88 = .ok (.iadd, 1) := by decide +kernel
theorem dX9_endCommit_89 : decode cX9_endCommit 89 = .ok (.iastore, 1) := by decide +kernel
theorem dX9_endCommit_90 : decode cX9_endCommit 90 = .ok (.iload_n 1, 1) := by decide +kernel
theorem dX9_endCommit_91 : decode cX9_endCommit 91 = .ok (.ifCond .eq 25, 3) := by decide +kernel
theorem dX9_endCommit_94 : decode cX9_endCommit 94 = .ok (.aload_n 0, 1) := by decide +kernel
theorem dX9_endCommit_95 : decode cX9_endCommit 95 = .ok (.getfield 90, 3) := by decide +kernel
theorem dX9_endCommit_98 : decode cX9_endCommit 98 = .ok (.iconst 1, 1) := by decide +kernel
theorem dX9_endCommit_99 : decode cX9_endCommit 99 = .ok (.dup2, 1) := by decide +kernel
theorem dX9_endCommit_100 : decode cX9_endCommit 100 = .ok (.iaload, 1) := by decide +kernel
theorem dX9_endCommit_101 : decode cX9_endCommit 101 = .ok (.iconst 1, 1) := by decide +kernel
theorem dX9_endCommit_102 : decode cX9_endCommit 102 = .ok (.iadd, 1) := by decide +kernel
theorem dX9_endCommit_103 : decode cX9_endCommit 103 = .ok (.iastore, 1) := by decide +kernel
theorem dX9_endCommit_104 : decode cX9_endCommit 104 = .ok (.aload_n 0, 1) := by decide +kernel
theorem dX9_endCommit_105 : decode cX9_endCommit 105 = .ok (.invokevirtual 104, 3) := by decide +kernel
theorem dX9_endCommit_108 : decode cX9_endCommit 108 = .ok (.aload_n 0, 1) := by decide +kernel
theorem dX9_endCommit_109 : decode cX9_endCommit 109 = .ok (.iconst 0, 1) := by decide +kernel
theorem dX9_endCommit_110 : decode cX9_endCommit 110 = .ok (.putfield 93, 3) := by decide +kernel
theorem dX9_endCommit_113 : decode cX9_endCommit 113 = .ok (.goto 28, 3) := by decide +kernel
theorem dX9_endCommit_116 : decode cX9_endCommit 116 = .ok (.aload_n 0, 1) := by decide +kernel
theorem dX9_endCommit_117 : decode cX9_endCommit 117 = .ok (.getfield 90, 3) := by decide +kernel
theorem dX9_endCommit_120 : decode cX9_endCommit 120 = .ok (.iconst 0, 1) := by decide +kernel
theorem dX9_endCommit_121 : decode cX9_endCommit 121 = .ok (.dup2, 1) := by decide +kernel
theorem dX9_endCommit_122 : decode cX9_endCommit 122 = .ok (.iaload, 1) := by decide +kernel
theorem dX9_endCommit_123 : decode cX9_endCommit 123 = .ok (.iconst 1, 1) := by decide +kernel
theorem dX9_endCommit_124 : decode cX9_endCommit 124 = .ok (.iadd, 1) := by decide +kernel
theorem dX9_endCommit_125 : decode cX9_endCommit 125 = .ok (.iastore, 1) := by decide +kernel
theorem dX9_endCommit_126 : decode cX9_endCommit 126 = .ok (.aload_n 0, 1) := by decide +kernel
theorem dX9_endCommit_127 : decode cX9_endCommit 127 = .ok (.getfield 19, 3) := by decide +kernel
theorem dX9_endCommit_130 : decode cX9_endCommit 130 = .ok (.aload_n 0, 1) := by decide +kernel
theorem dX9_endCommit_131 : decode cX9_endCommit 131 = .ok (.getfield 23, 3) := by decide +kernel
theorem dX9_endCommit_134 : decode cX9_endCommit 134 = .ok (.invokevirtual 314, 3) := by decide +kernel
theorem dX9_endCommit_137 : decode cX9_endCommit 137 = .ok (.aload_n 0, 1) := by decide +kernel
theorem dX9_endCommit_138 : decode cX9_endCommit 138 = .ok (.invokevirtual 445, 3) := by decide +kernel
theorem dX9_endCommit_141 : decode cX9_endCommit 141 = .ok (.iload_n 2, 1) := by decide +kernel
theorem dX9_endCommit_142 : decode cX9_endCommit 142 = .ok (.ireturn, 1) := by decide +kernel
set_option maxRecDepth 20000 in
theorem ggX9_endReadySlots_X7_reset : GoodIn wsX9_endReadySlots wsX7_reset := goodIn_r _ [8, 9, 10, 11, 12, 13, 14, 15, 16, 17, 18, 35, 36, 37, 38, 39, 40, 41] (by decide +kernel) (by decide +kernel)
set_option maxRecDepth 20000 in
theorem gX9_endReadySlots_X7_reset : GoodIn wsX9_endReadySlots (wsV RX9 113 RX7 yX7_reset wsX7_reset) := goodIn_app (goodIn_of _ (by decide +kernel)) ggX9_endReadySlots_X7_reset
theorem dX9_endReadySlots_0 : decode cX9_endReadySlots 0 = .ok (.iconst 0, 1) := by decide +kernel
theorem dX9_endReadySlots_1 : decode cX9_endReadySlots 1 = .ok (.istore_n 1, 1) := by decide +kernel
theorem dX9_endReadySlots_2 : decode cX9_endReadySlots 2 = .ok (.iload_n 1, 1) := by decide +kernel
theorem dX9_endReadySlots_3 : decode cX9_endReadySlots 3 = .ok (.aload_n 0, 1) := by decide +kernel
theorem dX9_endReadySlots_4 : decode cX9_endReadySlots 4 = .ok (.getfield 50, 3) := by decide +kernel
theorem dX9_endReadySlots_7 : decode cX9_endReadySlots 7 = .ok (.if_icmp .ge 24, 3) := by decide +kernel
theorem dX9_endReadySlots_10 : decode cX9_endReadySlots 10 = .ok (.aload_n 0, 1) := by decide +kernel
theorem dX9_endReadySlots_11 : decode cX9_endReadySlots 11 = .ok (.getfield 42, 3) := by decide +kernel
theorem dX9_endReadySlots_14 : decode cX9_endReadySlots 14 = .ok (.aload_n 0, 1) := by decide +kernel
theorem dX9_endReadySlots_15 : decode cX9_endReadySlots 15 = .ok (.getfield 46, 3) := by decide +kernel
theorem dX9_endReadySlots_18 : decode cX9_endReadySlots 18 = .ok (.iload_n 1, 1) := by decide +kernel
theorem dX9_endReadySlots_19 : decode cX9_endReadySlots 19 = .ok (.iaload, 1) := by decide +kernel
theorem dX9_endReadySlots_20 : decode cX9_endReadySlots 20 = .ok (.aaload, 1) := by decide +kernel
theorem dX9_endReadySlots_21 : decode cX9_endReadySlots 21 = .ok (.iconst 0, 1) := by decide +kernel
theorem dX9_endReadySlots_22 : decode cX9_endReadySlots 22 = .ok (.invokevirtual 113, 3) := by decide +kernel
theorem dX9_endReadySlots_25 : decode cX9_endReadySlots 25 = .ok (.iinc 1 1, 3) := by decide +kernel
theorem dX9_endReadySlots_28 : decode cX9_endReadySlots 28 = .ok (.goto (-26), 3) := by decide +kernel
theorem dX9_endReadySlots_31 : decode cX9_endReadySlots 31 = .ok (.aload_n 0, 1) := by decide +kernel
theorem dX9_endReadySlots_32 : decode cX9_endReadySlots 32 = .ok (.iconst 0, 1) := by decide +kernel
theorem dX9_endReadySlots_33 : decode cX9_endReadySlots 33 = .ok (.putfield 50, 3) := by decide +kernel
theorem dX9_endReadySlots_36 : decode cX9_endReadySlots 36 = .ok (.return_, 1) := by decide +kernel
set_option maxRecDepth 20000 in
theorem ggX10_init_X10_format : GoodIn wsX10_init wsX10_format := goodIn_r _ [39, 40, 41, 6, 5, 7, 8, 10, 42, 43, 44, 45, 38, 46, 47, 48, 49, 50, 51, 52, 53, 54, 55, 56, 57, 58, 59, 12, 60, 61, 62, 63, 13, 17, 14, 64, 65, 66, 67, 68, 69, 70, 71, 72, 73, 74, 75, 76, 77, 78, 79, 80, 81, 82, 83, 84, 85, 86, 87, 88, 89, 90, 91, 92, 93, 94, 95, 96, 97, 98, 99, 100, 101] (by decide +kernel) (by decide +kernel)
set_option maxRecDepth 20000 in
theorem gX10_init_X10_format : GoodIn wsX10_init (wsV RX10 96 RX10 yX10_format wsX10_format) := goodIn_app (goodIn_of _ (by decide +kernel)) ggX10_init_X10_format
theorem dX10_init_0 : decode cX10_init 0 = .ok (.aload_n 0, 1) := by decide +kernel
theorem dX10_init_1 : decode cX10_init 1 = .ok (.invokespecial 3, 3) := by decide +kernel
theorem dX10_init_4 : decode cX10_init 4 = .ok (.aload_n 0, 1) := by decide +kernel
theorem dX10_init_5 : decode cX10_init 5 = .ok (.sipush 416, 3) := by decide +kernel
theorem dX10_init_8 : decode cX10_init 8 = .ok (.newarray .int, 2) := by decide +kernel
theorem dX10_init_10 : decode cX10_init 10 = .ok (.putfield 9, 3) := by decide +kernel
theorem dX10_init_13 : decode cX10_init 13 = .ok (.aload_n 0, 1) := by decide +kernel
theorem dX10_init_14 : decode cX10_init 14 = .ok (.iconst 3, 1) := by decide +kernel
theorem dX10_init_15 : decode cX10_init 15 = .ok (.newarray .int, 2) := by decide +kernel
theorem dX10_init_17 : decode cX10_init 17 = .ok (.putfield 13, 3) := by decide +kernel
theorem dX10_init_20 : decode cX10_init 20 = .ok (.aload_n 0, 1) := by decide +kernel
theorem dX10_init_21 : decode cX10_init 21 = .ok (.iconst 3, 1) := by decide +kernel
theorem dX10_init_22 : decode cX10_init 22 = .ok (.newarray .int, 2) := by decide +kernel
theorem dX10_init_24 : decode cX10_init 24 = .ok (.putfield 16, 3) := by decide +kernel
theorem dX10_init_27 : decode cX10_init 27 = .ok (.aload_n 0, 1) := by decide +kernel
theorem dX10_init_28 : decode cX10_init 28 = .ok (.bipush 24, 2) := by decide +kernel
theorem dX10_init_30 : decode cX10_init 30 = .ok (.newarray .int, 2) := by decide +kernel
theorem dX10_init_32 : decode cX10_init 32 = .ok (.putfield 19, 3) := by decide +kernel
theorem dX10_init_35 : decode cX10_init 35 = .ok (.aload_n 0, 1) := by decide +kernel
theorem dX10_init_36 : decode cX10_init 36 = .ok (.sipush 192, 3) := by decide +kernel
theorem dX10_init_39 : decode cX10_init 39 = .ok (.newarray .boolean, 2) := by decide +kernel
theorem dX10_init_41 : decode cX10_init 41 = .ok (.putfield 22, 3) := by decide +kernel
theorem dX10_init_44 : decode cX10_init 44 = .ok (.aload_n 0, 1) := by decide +kernel
theorem dX10_init_45 : decode cX10_init 45 = .ok (.sipush 192, 3) := by decide +kernel
theorem dX10_init_48 : decode cX10_init 48 = .ok (.newarray .int, 2) := by decide +kernel
theorem dX10_init_50 : decode cX10_init 50 = .ok (.putfield 26, 3) := by decide +kernel
theorem dX10_init_53 : decode cX10_init 53 = .ok (.aload_n 0, 1) := by decide +kernel
theorem dX10_init_54 : decode cX10_init 54 = .ok (.iconst 2, 1) := by decide +kernel
theorem dX10_init_55 : decode cX10_init 55 = .ok (.newarray .boolean, 2) := by decide +kernel
theorem dX10_init_57 : decode cX10_init 57 = .ok (.putfield 29, 3) := by decide +kernel
theorem dX10_init_60 : decode cX10_init 60 = .ok (.aload_n 0, 1) := by decide +kernel
theorem dX10_init_61 : decode cX10_init 61 = .ok (.iconst 3, 1) := by decide +kernel
theorem dX10_init_62 : decode cX10_init 62 = .ok (.newarray .int, 2) := by decide +kernel
theorem dX10_init_64 : decode cX10_init 64 = .ok (.putfield 32, 3) := by decide +kernel
theorem dX10_init_67 : decode cX10_init 67 = .ok (.aload_n 0, 1) := by decide +kernel
theorem dX10_init_68 : decode cX10_init 68 = .ok (.sipush 192, 3) := by decide +kernel
theorem dX10_init_71 : decode cX10_init 71 = .ok (.newarray .boolean, 2) := by decide +kernel
theorem dX10_init_73 : decode cX10_init 73 = .ok (.putfield 35, 3) := by decide +kernel
theorem dX10_init_76 : decode cX10_init 76 = .ok (.aload_n 0, 1) := by decide +kernel
theorem dX10_init_77 : decode cX10_init 77 = .ok (.sipush 192, 3) := by decide +kernel
theorem dX10_init_80 : decode cX10_init 80 = .ok (.newarray .boolean, 2) := by decide +kernel
theorem dX10_init_82 : decode cX10_init 82 = .ok (.putfield 38, 3) := by decide +kernel
theorem dX10_init_85 : decode cX10_init 85 = .ok (.aload_n 0, 1) := by decide +kernel
theorem dX10_init_86 : decode cX10_init 86 = .ok (.sipush 192, 3) := by decide +kernel
theorem dX10_init_89 : decode cX10_init 89 = .ok (.newarray .int, 2) := by decide +kernel
theorem dX10_init_91 : decode cX10_init 91 = .ok (.putfield 41, 3) := by decide +kernel
theorem dX10_init_94 : decode cX10_init 94 = .ok (.aload_n 0, 1) := by decide +kernel
theorem dX10_init_95 : decode cX10_init 95 = .ok (.iconst 3, 1) := by decide +kernel
theorem dX10_init_96 : decode cX10_init 96 = .ok (.newarray .int, 2) := by decide +kernel
theorem dX10_init_98 : decode cX10_init 98 = .ok (.putfield 44, 3) := by decide +kernel
theorem dX10_init_101 : decode cX10_init 101 = .ok (.aload_n 0, 1) := by decide +kernel
theorem dX10_init_102 : decode cX10_init 102 = .ok (.sipush 576, 3) := by decide +kernel
theorem dX10_init_105 : decode cX10_init 105 = .ok (.newarray .boolean, 2) := by decide +kernel
theorem dX10_init_107 : decode cX10_init 107 = .ok (.putfield 47, 3) := by decide +kernel
theorem dX10_init_110 : decode cX10_init 110 = .ok (.aload_n 0, 1) := by decide +kernel
theorem dX10_init_111 : decode cX10_init 111 = .ok (.sipush 576, 3) := by decide +kernel
theorem dX10_init_114 : decode cX10_init 114 = .ok (.newarray .boolean, 2) := by decide +kernel
theorem dX10_init_116 : decode cX10_init 116 = .ok (.putfield 50, 3) := by decide +kernel
theorem dX10_init_119 : decode cX10_init 119 = .ok (.aload_n 0, 1) := by decide +kernel
theorem dX10_init_120 : decode cX10_init 120 = .ok (.sipush 576, 3) := by decide +kernel
theorem dX10_init_123 : decode cX10_init 123 = .ok (.newarray .int, 2) := by decide +kernel
theorem dX10_init_125 : decode cX10_init 125 = .ok (.putfield 53, 3) := by decide +kernel
theorem dX10_init_128 : decode cX10_init 128 = .ok (.aload_n 0, 1) := by decide +kernel
theorem dX10_init_129 : decode cX10_init 129 = .ok (.iconst 3, 1) := by decide +kernel
theorem dX10_init_130 : decode cX10_init 130 = .ok (.newarray .int, 2) := by decide +kernel
theorem dX10_init_132 : decode cX10_init 132 = .ok (.putfield 56, 3) := by decide +kernel
theorem dX10_init_135 : decode cX10_init 135 = .ok (.aload_n 0, 1) := by decide +kernel
theorem dX10_init_136 : decode cX10_init 136 = .ok (.bipush 60, 2) := by decide +kernel
theorem dX10_init_138 : decode cX10_init 138 = .ok (.newarray .char, 2) := by decide +kernel
theorem dX10_init_140 : decode cX10_init 140 = .ok (.putfield 59, 3) := by decide +kernel
theorem dX10_init_143 : decode cX10_init 143 = .ok (.aload_n 0, 1) := by decide +kernel
theorem dX10_init_144 : decode cX10_init 144 = .ok (.sipush 1024, 3) := by decide +kernel
theorem dX10_init_147 : decode cX10_init 147 = .ok (.newarray .char, 2) := by decide +kernel
theorem dX10_init_149 : decode cX10_init 149 = .ok (.putfield 63, 3) := by decide +kernel
theorem dX10_init_152 : decode cX10_init 152 = .ok (.aload_n 0, 1) := by decide +kernel
theorem dX10_init_153 : decode cX10_init 153 = .ok (.bipush 32, 2) := by decide +kernel
theorem dX10_init_155 : decode cX10_init 155 = .ok (.newarray .int, 2) := by decide +kernel
theorem dX10_init_157 : decode cX10_init 157 = .ok (.putfield 66, 3) := by decide +kernel
theorem dX10_init_160 : decode cX10_init 160 = .ok (.aload_n 0, 1) := by decide +kernel
theorem dX10_init_161 : decode cX10_init 161 = .ok (.bipush 8, 2) := by decide +kernel
theorem dX10_init_163 : decode cX10_init 163 = .ok (.newarray .int, 2) := by decide +kernel
theorem dX10_init_165 : decode cX10_init 165 = .ok (.putfield 69, 3) := by decide +kernel
theorem dX10_init_168 : decode cX10_init 168 = .ok (.aload_n 0, 1) := by decide +kernel
theorem dX10_init_169 : decode cX10_init 169 = .ok (.bipush 64, 2) := by decide +kernel
theorem dX10_init_171 : decode cX10_init 171 = .ok (.newarray .boolean, 2) := by decide +kernel
theorem dX10_init_173 : decode cX10_init 173 = .ok (.putfield 72, 3) := by decide +kernel
theorem dX10_init_176 : decode cX10_init 176 = .ok (.aload_n 0, 1) := by decide +kernel
theorem dX10_init_177 : decode cX10_init 177 = .ok (.bipush 64, 2) := by decide +kernel
theorem dX10_init_179 : decode cX10_init 179 = .ok (.newarray .int, 2) := by decide +kernel
theorem dX10_init_181 : decode cX10_init 181 = .ok (.putfield 75, 3) := by decide +kernel
theorem dX10_init_184 : decode cX10_init 184 = .ok (.aload_n 0, 1) := by decide +kernel
theorem dX10_init_185 : decode cX10_init 185 = .ok (.bipush 64, 2) := by decide +kernel
theorem dX10_init_187 : decode cX10_init 187 = .ok (.newarray .int, 2) := by decide +kernel
theorem dX10_init_189 : decode cX10_init 189 = .ok (.putfield 78, 3) := by decide +kernel
theorem dX10_init_192 : decode cX10_init 192 = .ok (.aload_n 0, 1) := by decide +kernel
theorem dX10_init_193 : decode cX10_init 193 = .ok (.bipush 64, 2) := by decide +kernel
theorem dX10_init_195 : decode cX10_init 195 = .ok (.newarray .int, 2) := by decide +kernel
theorem dX10_init_197 : decode cX10_init 197 = .ok (.putfield 81, 3) := by decide +kernel
theorem dX10_init_200 : decode cX10_init 200 = .ok (.aload_n 0, 1) := by decide +kernel
theorem dX10_init_201 : decode cX10_init 201 = .ok (.bipush 8, 2) := by decide +kernel
theorem dX10_init_203 : decode cX10_init 203 = .ok (.newarray .boolean, 2) := by decide +kernel
theorem dX10_init_205 : decode cX10_init 205 = .ok (.putfield 84, 3) := by decide +kernel
theorem dX10_init_208 : decode cX10_init 208 = .ok (.aload_n 0, 1) := by decide +kernel
theorem dX10_init_209 : decode cX10_init 209 = .ok (.bipush 64, 2) := by decide +kernel
theorem dX10_init_211 : decode cX10_init 211 = .ok (.newarray .boolean, 2) := by decide +kernel
theorem dX10_init_213 : decode cX10_init 213 = .ok (.putfield 87, 3) := by decide +kernel
theorem dX10_init_216 : decode cX10_init 216 = .ok (.aload_n 0, 1) := by decide +kernel
theorem dX10_init_217 : decode cX10_init 217 = .ok (.bipush 64, 2) := by decide +kernel
theorem dX10_init_219 : decode cX10_init 219 = .ok (.newarray .int, 2) := by decide +kernel
theorem dX10_init_221 : decode cX10_init 221 = .ok (.putfield 90, 3) := by decide +kernel
theorem dX10_init_224 : decode cX10_init 224 = .ok (.aload_n 0, 1) := by decide +kernel
theorem dX10_init_225 : decode cX10_init 225 = .ok (.bipush 13, 2) := by decide +kernel
theorem dX10_init_227 : decode cX10_init 227 = .ok (.newarray .int, 2) := by decide +kernel
theorem dX10_init_229 : decode cX10_init 229 = .ok (.putfield 93, 3) := by decide +kernel
theorem dX10_init_232 : decode cX10_init 232 = .ok (.aload_n 0, 1) := by decide +kernel
theorem dX10_init_233 : decode cX10_init 233 = .ok (.invokevirtual 96, 3) := by decide +kernel
theorem dX10_init_236 : decode cX10_init 236 = .ok (.istore_n 1, 1) := by decide +kernel
theorem dX10_init_237 : decode cX10_init 237 = .ok (.return_, 1) := by decide +kernel
theorem dX10_thrown_0 : decode cX10_thrown 0 = .ok (.aload_n 0, 1) := by decide +kernel
theorem dX10_thrown_1 : decode cX10_thrown 1 = .ok (.getfield 100, 3) := by decide +kernel
theorem dX10_thrown_4 : decode cX10_thrown 4 = .ok (.ireturn, 1) := by decide +kernel
theorem dX10_fails_0 : decode cX10_fails 0 = .ok (.aload_n 0, 1) := by decide +kernel
theorem dX10_fails_1 : decode cX10_fails 1 = .ok (.iload_n 1, 1) := by decide +kernel
theorem dX10_fails_2 : decode cX10_fails 2 = .ok (.putfield 100, 3) := by decide +kernel
theorem dX10_fails_5 : decode cX10_fails 5 = .ok (.iconst 0, 1) := by decide +kernel
theorem dX10_fails_6 : decode cX10_fails 6 = .ok (.ireturn, 1) := by decide +kernel
theorem dX10_in_0 : decode cX10_in 0 = .ok (.iload_n 0, 1) := by decide +kernel
theorem dX10_in_1 : decode cX10_in 1 = .ok (.iload_n 1, 1) := by decide +kernel
theorem dX10_in_2 : decode cX10_in 2 = .ok (.if_icmp .lt 12, 3) := by decide +kernel
theorem dX10_in_5 : decode cX10_in 5 = .ok (.iload_n 0, 1) := by decide +kernel
theorem dX10_in_6 : decode cX10_in 6 = .ok (.iload_n 2, 1) := by decide +kernel
theorem dX10_in_7 : decode cX10_in 7 = .ok (.if_icmp .gt 7, 3) := by decide +kernel
theorem dX10_in_10 : decode cX10_in 10 = .ok (.iconst 1, 1) := by decide +kernel
theorem dX10_in_11 : decode cX10_in 11 = .ok (.goto 4, 3) := by decide +kernel
theorem dX10_in_14 : decode cX10_in 14 = .ok (.iconst 0, 1) := by decide +kernel
theorem dX10_in_15 : decode cX10_in 15 = .ok (.ireturn, 1) := by decide +kernel
set_option maxRecDepth 20000 in
theorem ggX10_isKey_X10_in : GoodIn wsX10_isKey wsX10_in := goodIn_r _ [4] (by decide +kernel) (by decide +kernel)
set_option maxRecDepth 20000 in
theorem gX10_isKey_X10_in : GoodIn wsX10_isKey (va_wsS RX10 104 yX10_in wsX10_in) := goodIn_app (goodIn_of _ (by decide +kernel)) ggX10_isKey_X10_in
theorem dX10_isKey_0 : decode cX10_isKey 0 = .ok (.iload_n 0, 1) := by decide +kernel
theorem dX10_isKey_1 : decode cX10_isKey 1 = .ok (.iconst 0, 1) := by decide +kernel
theorem dX10_isKey_2 : decode cX10_isKey 2 = .ok (.bipush 63, 2) := by decide +kernel
theorem dX10_isKey_4 : decode cX10_isKey 4 = .ok (.invokestatic 104, 3) := by decide +kernel
theorem dX10_isKey_7 : decode cX10_isKey 7 = .ok (.ireturn, 1) := by decide +kernel
set_option maxRecDepth 20000 in
theorem ggX10_isSlot_X10_in : GoodIn wsX10_isSlot wsX10_in := goodIn_r _ [4] (by decide +kernel) (by decide +kernel)
set_option maxRecDepth 20000 in
theorem gX10_isSlot_X10_in : GoodIn wsX10_isSlot (va_wsS RX10 104 yX10_in wsX10_in) := goodIn_app (goodIn_of _ (by decide +kernel)) ggX10_isSlot_X10_in
theorem dX10_isSlot_0 : decode cX10_isSlot 0 = .ok (.iload_n 0, 1) := by decide +kernel
theorem dX10_isSlot_1 : decode cX10_isSlot 1 = .ok (.iconst 0, 1) := by decide +kernel
theorem dX10_isSlot_2 : decode cX10_isSlot 2 = .ok (.iconst 2, 1) := by decide +kernel
theorem dX10_isSlot_3 : decode cX10_isSlot 3 = .ok (.invokestatic 104, 3) := by decide +kernel
theorem dX10_isSlot_6 : decode cX10_isSlot 6 = .ok (.ireturn, 1) := by decide +kernel
set_option maxRecDepth 20000 in
theorem ggX10_isBlock_X10_in : GoodIn wsX10_isBlock wsX10_in := goodIn_r _ [4] (by decide +kernel) (by decide +kernel)
set_option maxRecDepth 20000 in
theorem gX10_isBlock_X10_in : GoodIn wsX10_isBlock (va_wsS RX10 104 yX10_in wsX10_in) := goodIn_app (goodIn_of _ (by decide +kernel)) ggX10_isBlock_X10_in
theorem dX10_isBlock_0 : decode cX10_isBlock 0 = .ok (.iload_n 0, 1) := by decide +kernel
theorem dX10_isBlock_1 : decode cX10_isBlock 1 = .ok (.iconst 0, 1) := by decide +kernel
theorem dX10_isBlock_2 : decode cX10_isBlock 2 = .ok (.bipush 31, 2) := by decide +kernel
theorem dX10_isBlock_4 : decode cX10_isBlock 4 = .ok (.invokestatic 104, 3) := by decide +kernel
theorem dX10_isBlock_7 : decode cX10_isBlock 7 = .ok (.ireturn, 1) := by decide +kernel
theorem dX10_at_0 : decode cX10_at 0 = .ok (.aload_n 0, 1) := by decide +kernel
theorem dX10_at_1 : decode cX10_at 1 = .ok (.getfield 9, 3) := by decide +kernel
theorem dX10_at_4 : decode cX10_at 4 = .ok (.bipush 13, 2) := by decide +kernel
theorem dX10_at_6 : decode cX10_at 6 = .ok (.iload_n 1, 1) := by decide +kernel
theorem dX10_at_7 : decode cX10_at 7 = .ok (.imul, 1) := by decide +kernel
theorem dX10_at_8 : decode cX10_at 8 = .ok (.iload_n 2, 1) := by decide +kernel
theorem dX10_at_9 : decode cX10_at 9 = .ok (.iadd, 1) := by decide +kernel
theorem dX10_at_10 : decode cX10_at 10 = .ok (.iaload, 1) := by decide +kernel
theorem dX10_at_11 : decode cX10_at 11 = .ok (.ireturn, 1) := by decide +kernel
set_option maxRecDepth 20000 in
theorem ggX10_sumOf_X10_at : GoodIn wsX10_sumOf wsX10_at := goodIn_r _ [5, 6, 7, 8, 9, 10, 11, 12, 13, 14, 15, 16, 17, 18, 19, 20, 21, 22, 23, 24, 25, 26, 27, 28, 29, 30, 31, 32, 33, 34, 35, 36, 37, 38, 39, 40, 41, 42, 43, 44] (by decide +kernel) (by decide +kernel)
set_option maxRecDepth 20000 in
theorem gX10_sumOf_X10_at : GoodIn wsX10_sumOf (wsV RX10 108 RX10 yX10_at wsX10_at) := goodIn_app (goodIn_of _ (by decide +kernel)) ggX10_sumOf_X10_at
theorem dX10_sumOf_0 : decode cX10_sumOf 0 = .ok (.iload_n 1, 1) := by decide +kernel
theorem dX10_sumOf_1 : decode cX10_sumOf 1 = .ok (.bipush 17, 2) := by decide +kernel
theorem dX10_sumOf_3 : decode cX10_sumOf 3 = .ok (.iadd, 1) := by decide +kernel
theorem dX10_sumOf_4 : decode cX10_sumOf 4 = .ok (.istore_n 2, 1) := by decide +kernel
theorem dX10_sumOf_5 : decode cX10_sumOf 5 = .ok (.iconst 0, 1) := by decide +kernel
theorem dX10_sumOf_6 : decode cX10_sumOf 6 = .ok (.istore_n 3, 1) := by decide +kernel
theorem dX10_sumOf_7 : decode cX10_sumOf 7 = .ok (.iload_n 3, 1) := by decide +kernel
theorem dX10_sumOf_8 : decode cX10_sumOf 8 = .ok (.bipush 12, 2) := by decide +kernel
theorem dX10_sumOf_10 : decode cX10_sumOf 10 = .ok (.if_icmp .ge 21, 3) := by decide +kernel
theorem dX10_sumOf_13 : decode cX10_sumOf 13 = .ok (.bipush 31, 2) := by decide +kernel
theorem dX10_sumOf_15 : decode cX10_sumOf 15 = .ok (.iload_n 2, 1) := by decide +kernel
theorem dX10_sumOf_16 : decode cX10_sumOf 16 = .ok (.imul, 1) := by decide +kernel
theorem dX10_sumOf_17 : decode cX10_sumOf 17 = .ok (.aload_n 0, 1) := by decide +kernel
theorem dX10_sumOf_18 : decode cX10_sumOf 18 = .ok (.iload_n 1, 1) := by decide +kernel
theorem dX10_sumOf_19 : decode cX10_sumOf 19 = .ok (.iload_n 3, 1) := by decide +kernel
theorem dX10_sumOf_20 : decode cX10_sumOf 20 = .ok (.invokevirtual 108, 3) := by decide +kernel
theorem dX10_sumOf_23 : decode cX10_sumOf 23 = .ok (.iadd, 1) := by decide +kernel
theorem dX10_sumOf_24 : decode cX10_sumOf 24 = .ok (.istore_n 2, 1) := by decide +kernel
theorem dX10_sumOf_25 : decode cX10_sumOf 25 = .ok (.iinc 3 1, 3) := by decide +kernel
theorem dX10_sumOf_28 : decode cX10_sumOf 28 = .ok (.goto (-21), 3) := by decide +kernel
theorem dX10_sumOf_31 : decode cX10_sumOf 31 = .ok (.iload_n 2, 1) := by decide +kernel
theorem dX10_sumOf_32 : decode cX10_sumOf 32 = .ok (.ireturn, 1) := by decide +kernel
set_option maxRecDepth 20000 in
theorem ggX10_valid_X10_at : GoodIn wsX10_valid wsX10_at := goodIn_r _ [5, 6, 11, 12, 13, 14, 15, 16, 17, 18, 19, 20, 21, 22, 23, 24, 25, 26, 27, 28, 29, 30, 31, 32, 33, 34, 35, 36, 37, 38, 39, 40, 41, 42, 43, 44, 45, 46, 47, 48] (by decide +kernel) (by decide +kernel)
set_option maxRecDepth 20000 in
theorem gX10_valid_X10_at : GoodIn wsX10_valid (wsV RX10 108 RX10 yX10_at wsX10_at) := goodIn_app (goodIn_of _ (by decide +kernel)) ggX10_valid_X10_at
set_option maxRecDepth 20000 in
theorem ggX10_valid_X10_sumOf : GoodIn wsX10_valid wsX10_sumOf := goodIn_r _ [10, 1, 2, 3, 4, 5, 6, 11, 12, 13, 14, 15, 16, 17, 18, 19, 20, 21, 22, 23, 24, 25, 26, 27, 28, 29, 30, 31, 32, 33, 34, 35, 36, 37, 38, 39, 40, 41, 42, 43, 44, 45, 46, 47, 48] (by decide +kernel) (by decide +kernel)
set_option maxRecDepth 20000 in
theorem gX10_valid_X10_sumOf : GoodIn wsX10_valid (wsV RX10 112 RX10 yX10_sumOf wsX10_sumOf) := goodIn_app (goodIn_of _ (by decide +kernel)) ggX10_valid_X10_sumOf
theorem dX10_valid_0 : decode cX10_valid 0 = .ok (.aload_n 0, 1) := by decide +kernel
theorem dX10_valid_1 : decode cX10_valid 1 = .ok (.iload_n 1, 1) := by decide +kernel
theorem dX10_valid_2 : decode cX10_valid 2 = .ok (.bipush 12, 2) := by decide +kernel
theorem dX10_valid_4 : decode cX10_valid 4 = .ok (.invokevirtual 108, 3) := by decide +kernel
theorem dX10_valid_7 : decode cX10_valid 7 = .ok (.aload_n 0, 1) := by decide +kernel
theorem dX10_valid_8 : decode cX10_valid 8 = .ok (.iload_n 1, 1) := by decide +kernel
theorem dX10_valid_9 : decode cX10_valid 9 = .ok (.invokevirtual 112, 3) := by decide +kernel
theorem dX10_valid_12 : decode cX10_valid 12 = .ok (.if_icmp .ne 7, 3) := by decide +kernel
theorem dX10_valid_15 : decode cX10_valid 15 = .ok (.iconst 1, 1) := by decide +kernel
theorem dX10_valid_16 : decode cX10_valid 16 = .ok (.goto 4, 3) := by decide +kernel
theorem dX10_valid_19 : decode cX10_valid 19 = .ok (.iconst 0, 1) := by decide +kernel
theorem dX10_valid_20 : decode cX10_valid 20 = .ok (.ireturn, 1) := by decide +kernel
set_option maxRecDepth 20000 in
theorem ggX10_setSum_X10_sumOf : GoodIn wsX10_setSum wsX10_sumOf := goodIn_r _ [6, 7, 8, 9, 5, 10, 1, 11, 12, 13, 14, 15, 16, 17, 18, 19, 20, 21, 22, 23, 24, 25, 26, 27, 28, 29, 30, 31, 32, 33, 34, 35, 36, 37, 38, 39, 40, 41, 42, 43, 44, 45, 46, 47, 48] (by decide +kernel) (by decide +kernel)
set_option maxRecDepth 20000 in
theorem gX10_setSum_X10_sumOf : GoodIn wsX10_setSum (wsV RX10 112 RX10 yX10_sumOf wsX10_sumOf) := goodIn_app (goodIn_of _ (by decide +kernel)) ggX10_setSum_X10_sumOf
theorem dX10_setSum_0 : decode cX10_setSum 0 = .ok (.aload_n 0, 1) := by decide +kernel
theorem dX10_setSum_1 : decode cX10_setSum 1 = .ok (.getfield 9, 3) := by decide +kernel
theorem dX10_setSum_4 : decode cX10_setSum 4 = .ok (.bipush 13, 2) := by decide +kernel
theorem dX10_setSum_6 : decode cX10_setSum 6 = .ok (.iload_n 1, 1) := by decide +kernel
theorem dX10_setSum_7 : decode cX10_setSum 7 = .ok (.imul, 1) := by decide +kernel
theorem dX10_setSum_8 : decode cX10_setSum 8 = .ok (.bipush 12, 2) := by decide +kernel
theorem dX10_setSum_10 : decode cX10_setSum 10 = .ok (.iadd, 1) := by decide +kernel
theorem dX10_setSum_11 : decode cX10_setSum 11 = .ok (.aload_n 0, 1) := by decide +kernel
theorem dX10_setSum_12 : decode cX10_setSum 12 = .ok (.iload_n 1, 1) := by decide +kernel
theorem dX10_setSum_13 : decode cX10_setSum 13 = .ok (.invokevirtual 112, 3) := by decide +kernel
theorem dX10_setSum_16 : decode cX10_setSum 16 = .ok (.iastore, 1) := by decide +kernel
theorem dX10_setSum_17 : decode cX10_setSum 17 = .ok (.return_, 1) := by decide +kernel
set_option maxRecDepth 20000 in
theorem ggX10_format_X10_setSum : GoodIn wsX10_format wsX10_setSum := goodIn_r _ [13, 4, 14, 15, 16, 12, 17, 18, 19, 20, 21, 35, 36, 37, 38, 39, 40, 41, 42, 43, 44, 45, 46, 47, 48, 49, 50, 51, 52, 53, 54, 55, 56, 57, 58, 59, 60, 61, 62, 63, 64, 65, 66, 67, 68, 69, 70, 71, 72] (by decide +kernel) (by decide +kernel)
set_option maxRecDepth 20000 in
theorem gX10_format_X10_setSum : GoodIn wsX10_format (wsV RX10 120 RX10 yX10_setSum wsX10_setSum) := goodIn_app (goodIn_of _ (by decide +kernel)) ggX10_format_X10_setSum
set_option maxRecDepth 20000 in
theorem ggX10_format_X10_restart : GoodIn wsX10_format wsX10_restart := goodIn_r _ [25, 26, 27, 28, 29, 30, 12, 31, 32, 33, 34, 35, 36, 37, 38, 39, 40, 41, 42, 43, 44, 45, 46, 47, 48, 49, 50, 51, 52, 53, 54, 55, 56, 57, 58, 59, 60, 61, 62, 63, 64, 65, 66, 67, 68, 69, 70, 71, 72] (by decide +kernel) (by decide +kernel)
set_option maxRecDepth 20000 in
theorem gX10_format_X10_restart : GoodIn wsX10_format (wsV RX10 124 RX10 yX10_restart wsX10_restart) := goodIn_app (goodIn_of _ (by decide +kernel)) ggX10_format_X10_restart
theorem dX10_format_0 : decode cX10_format 0 = .ok (.aload_n 0, 1) := by decide +kernel
theorem dX10_format_1 : decode cX10_format 1 = .ok (.iconst 0, 1) := by decide +kernel
theorem dX10_format_2 : decode cX10_format 2 = .ok (.putfield 100, 3) := by decide +kernel
theorem dX10_format_5 : decode cX10_format 5 = .ok (.aload_n 0, 1) := by decide +kernel
theorem dX10_format_6 : decode cX10_format 6 = .ok (.getfield 116, 3) := by decide +kernel
theorem dX10_format_9 : decode cX10_format 9 = .ok (.ifCond .eq 12, 3) := by decide +kernel
theorem dX10_format_12 : decode cX10_format 12 = .ok (.aload_n 0, 1) := by decide +kernel
theorem dX10_format_13 : decode cX10_format 13 = .ok (.getfield 13, 3) := by decide +kernel
theorem dX10_format_16 : decode cX10_format 16 = .ok (.iconst 0, 1) := by decide +kernel
theorem dX10_format_17 : decode cX10_format 17 = .ok (.iaload, 1) := by decide +kernel
theorem dX10_format_18 : decode cX10_format 18 = .ok (.goto 4, 3) := by decide +kernel
theorem dX10_format_21 : decode cX10_format 21 = .ok (.iconst (-1), 1) := by decide +kernel
theorem dX10_format_22 : decode cX10_format 22 = .ok (.istore_n 1, 1) := by decide +kernel
theorem dX10_format_23 : decode cX10_format 23 = .ok (.iconst 0, 1) := by decide +kernel
theorem dX10_format_24 : decode cX10_format 24 = .ok (.istore_n 2, 1) := by decide +kernel
theorem dX10_format_25 : decode cX10_format 25 = .ok (.iload_n 2, 1) := by decide +kernel
theorem dX10_format_26 : decode cX10_format 26 = .ok (.sipush 416, 3) := by decide +kernel
theorem dX10_format_29 : decode cX10_format 29 = .ok (.if_icmp .ge 16, 3) := by decide +kernel
theorem dX10_format_32 : decode cX10_format 32 = .ok (.aload_n 0, 1) := by decide +kernel
theorem dX10_format_33 : decode cX10_format 33 = .ok (.getfield 9, 3) := by decide +kernel
theorem dX10_format_36 : decode cX10_format 36 = .ok (.iload_n 2, 1) := by decide +kernel
theorem dX10_format_37 : decode cX10_format 37 = .ok (.iconst 0, 1) := by decide +kernel
theorem dX10_format_38 : decode cX10_format 38 = .ok (.iastore, 1) := by decide +kernel
theorem dX10_format_39 : decode cX10_format 39 = .ok (.iinc 2 1, 3) := by decide +kernel
theorem dX10_format_42 : decode cX10_format 42 = .ok (.goto (-17), 3) := by decide +kernel
theorem dX10_format_45 : decode cX10_format 45 = .ok (.aload_n 0, 1) := by decide +kernel
theorem dX10_format_46 : decode cX10_format 46 = .ok (.getfield 9, 3) := by decide +kernel
theorem dX10_format_49 : decode cX10_format 49 = .ok (.iconst 0, 1) := by decide +kernel
theorem dX10_format_50 : decode cX10_format 50 = .ok (.iconst 1, 1) := by decide +kernel
theorem dX10_format_51 : decode cX10_format 51 = .ok (.iastore, 1) := by decide +kernel
theorem dX10_format_52 : decode cX10_format 52 = .ok (.aload_n 0, 1) := by decide +kernel
theorem dX10_format_53 : decode cX10_format 53 = .ok (.getfield 9, 3) := by decide +kernel
theorem dX10_format_56 : decode cX10_format 56 = .ok (.iconst 2, 1) := by decide +kernel
theorem dX10_format_57 : decode cX10_format 57 = .ok (.iconst 2, 1) := by decide +kernel
theorem dX10_format_58 : decode cX10_format 58 = .ok (.iastore, 1) := by decide +kernel
theorem dX10_format_59 : decode cX10_format 59 = .ok (.aload_n 0, 1) := by decide +kernel
theorem dX10_format_60 : decode cX10_format 60 = .ok (.iconst 0, 1) := by decide +kernel
theorem dX10_format_61 : decode cX10_format 61 = .ok (.invokevirtual 120, 3) := by decide +kernel
theorem dX10_format_64 : decode cX10_format 64 = .ok (.aload_n 0, 1) := by decide +kernel
theorem dX10_format_65 : decode cX10_format 65 = .ok (.getfield 9, 3) := by decide +kernel
theorem dX10_format_68 : decode cX10_format 68 = .ok (.bipush 26, 2) := by decide +kernel
theorem dX10_format_70 : decode cX10_format 70 = .ok (.iconst 2, 1) := by decide +kernel
theorem dX10_format_71 : decode cX10_format 71 = .ok (.iastore, 1) := by decide +kernel
theorem dX10_format_72 : decode cX10_format 72 = .ok (.iconst 0, 1) := by decide +kernel
theorem dX10_format_73 : decode cX10_format 73 = .ok (.istore_n 2, 1) := by decide +kernel
theorem dX10_format_74 : decode cX10_format 74 = .ok (.iload_n 2, 1) := by decide +kernel
theorem dX10_format_75 : decode cX10_format 75 = .ok (.bipush 8, 2) := by decide +kernel
theorem dX10_format_77 : decode cX10_format 77 = .ok (.if_icmp .ge 19, 3) := by decide +kernel
theorem dX10_format_80 : decode cX10_format 80 = .ok (.aload_n 0, 1) := by decide +kernel
theorem dX10_format_81 : decode cX10_format 81 = .ok (.getfield 9, 3) := by decide +kernel
theorem dX10_format_84 : decode cX10_format 84 = .ok (.bipush 30, 2) := by decide +kernel
theorem dX10_format_86 : decode cX10_format 86 = .ok (.iload_n 2, 1) := by decide +kernel
theorem dX10_format_87 : decode cX10_format 87 = .ok (.iadd, 1) := by decide +kernel
theorem dX10_format_88 : decode cX10_format 88 = .ok (.iconst (-1), 1) := by decide +kernel
theorem dX10_format_89 : decode cX10_format 89 = .ok (.iastore, 1) := by decide +kernel
theorem dX10_format_90 : decode cX10_format 90 = .ok (.iinc 2 1, 3) := by decide +kernel
theorem dX10_format_93 : decode cX10_format 93 = .ok (.goto (-19), 3) := by decide +kernel
theorem dX10_format_96 : decode cX10_format 96 = .ok (.aload_n 0, 1) := by decide +kernel
theorem dX10_format_97 : decode cX10_format 97 = .ok (.iconst 2, 1) := by decide +kernel
theorem dX10_format_98 : decode cX10_format 98 = .ok (.invokevirtual 120, 3) := by decide +kernel
theorem dX10_format_101 : decode cX10_format 101 = .ok (.aload_n 0, 1) := by decide +kernel
theorem dX10_format_102 : decode cX10_format 102 = .ok (.invokevirtual 124, 3) := by decide +kernel
theorem dX10_format_105 : decode cX10_format 105 = .ok (.aload_n 0, 1) := by decide +kernel
theorem dX10_format_106 : decode cX10_format 106 = .ok (.getfield 13, 3) := by decide +kernel
theorem dX10_format_109 : decode cX10_format 109 = .ok (.iconst 0, 1) := by decide +kernel
theorem dX10_format_110 : decode cX10_format 110 = .ok (.iconst 0, 1) := by decide +kernel
theorem dX10_format_111 : decode cX10_format 111 = .ok (.iastore, 1) := by decide +kernel
theorem dX10_format_112 : decode cX10_format 112 = .ok (.aload_n 0, 1) := by decide +kernel
theorem dX10_format_113 : decode cX10_format 113 = .ok (.getfield 16, 3) := by decide +kernel
theorem dX10_format_116 : decode cX10_format 116 = .ok (.iconst 0, 1) := by decide +kernel
theorem dX10_format_117 : decode cX10_format 117 = .ok (.iconst 2, 1) := by decide +kernel
theorem dX10_format_118 : decode cX10_format 118 = .ok (.iastore, 1) := by decide +kernel
theorem dX10_format_119 : decode cX10_format 119 = .ok (.iconst 0, 1) := by decide +kernel
theorem dX10_format_120 : decode cX10_format 120 = .ok (.istore_n 2, 1) := by decide +kernel
theorem dX10_format_121 : decode cX10_format 121 = .ok (.iload_n 2, 1) := by decide +kernel
theorem dX10_format_122 : decode cX10_format 122 = .ok (.bipush 8, 2) := by decide +kernel
theorem dX10_format_124 : decode cX10_format 124 = .ok (.if_icmp .ge 16, 3) := by decide +kernel
theorem dX10_format_127 : decode cX10_format 127 = .ok (.aload_n 0, 1) := by decide +kernel
theorem dX10_format_128 : decode cX10_format 128 = .ok (.getfield 19, 3) := by decide +kernel
theorem dX10_format_131 : decode cX10_format 131 = .ok (.iload_n 2, 1) := by decide +kernel
theorem dX10_format_132 : decode cX10_format 132 = .ok (.iconst (-1), 1) := by decide +kernel
theorem dX10_format_133 : decode cX10_format 133 = .ok (.iastore, 1) := by decide +kernel
theorem dX10_format_134 : decode cX10_format 134 = .ok (.iinc 2 1, 3) := by decide +kernel
theorem dX10_format_137 : decode cX10_format 137 = .ok (.goto (-16), 3) := by decide +kernel
theorem dX10_format_140 : decode cX10_format 140 = .ok (.iconst 0, 1) := by decide +kernel
theorem dX10_format_141 : decode cX10_format 141 = .ok (.istore_n 2, 1) := by decide +kernel
theorem dX10_format_142 : decode cX10_format 142 = .ok (.iload_n 2, 1) := by decide +kernel
theorem dX10_format_143 : decode cX10_format 143 = .ok (.bipush 64, 2) := by decide +kernel
theorem dX10_format_145 : decode cX10_format 145 = .ok (.if_icmp .ge 16, 3) := by decide +kernel
theorem dX10_format_148 : decode cX10_format 148 = .ok (.aload_n 0, 1) := by decide +kernel
theorem dX10_format_149 : decode cX10_format 149 = .ok (.getfield 22, 3) := by decide +kernel
theorem dX10_format_152 : decode cX10_format 152 = .ok (.iload_n 2, 1) := by decide +kernel
theorem dX10_format_153 : decode cX10_format 153 = .ok (.iconst 0, 1) := by decide +kernel
theorem dX10_format_154 : decode cX10_format 154 = .ok (.bastore, 1) := by decide +kernel
theorem dX10_format_155 : decode cX10_format 155 = .ok (.iinc 2 1, 3) := by decide +kernel
theorem dX10_format_158 : decode cX10_format 158 = .ok (.goto (-16), 3) := by decide +kernel
theorem dX10_format_161 : decode cX10_format 161 = .ok (.aload_n 0, 1) := by decide +kernel
theorem dX10_format_162 : decode cX10_format 162 = .ok (.iconst 1, 1) := by decide +kernel
theorem dX10_format_163 : decode cX10_format 163 = .ok (.putfield 116, 3) := by decide +kernel
theorem dX10_format_166 : decode cX10_format 166 = .ok (.aload_n 0, 1) := by decide +kernel
theorem dX10_format_167 : decode cX10_format 167 = .ok (.iconst 0, 1) := by decide +kernel
theorem dX10_format_168 : decode cX10_format 168 = .ok (.putfield 127, 3) := by decide +kernel
theorem dX10_format_171 : decode cX10_format 171 = .ok (.iload_n 1, 1) := by decide +kernel
theorem dX10_format_172 : decode cX10_format 172 = .ok (.ireturn, 1) := by decide +kernel
set_option maxRecDepth 20000 in
theorem ggX10_restart_X10_idle : GoodIn wsX10_restart wsX10_idle := goodIn_r _ [7, 8, 9, 10, 11, 12, 13, 14, 15, 16, 17, 18, 19, 20, 21, 22, 23, 24, 25, 26, 27, 28, 29, 30, 31, 32, 33, 34, 35, 36, 37, 38, 39, 40, 41, 42, 43, 44, 45, 46, 47, 48] (by decide +kernel) (by decide +kernel)
set_option maxRecDepth 20000 in
theorem gX10_restart_X10_idle : GoodIn wsX10_restart (wsV RX10 130 RX10 yX10_idle wsX10_idle) := goodIn_app (goodIn_of _ (by decide +kernel)) ggX10_restart_X10_idle
theorem dX10_restart_0 : decode cX10_restart 0 = .ok (.iconst 0, 1) := by decide +kernel
theorem dX10_restart_1 : decode cX10_restart 1 = .ok (.istore_n 1, 1) := by decide +kernel
theorem dX10_restart_2 : decode cX10_restart 2 = .ok (.iload_n 1, 1) := by decide +kernel
theorem dX10_restart_3 : decode cX10_restart 3 = .ok (.iconst 3, 1) := by decide +kernel
theorem dX10_restart_4 : decode cX10_restart 4 = .ok (.if_icmp .ge 14, 3) := by decide +kernel
theorem dX10_restart_7 : decode cX10_restart 7 = .ok (.aload_n 0, 1) := by decide +kernel
theorem dX10_restart_8 : decode cX10_restart 8 = .ok (.iload_n 1, 1) := by decide +kernel
theorem dX10_restart_9 : decode cX10_restart 9 = .ok (.invokevirtual 130, 3) := by decide +kernel
theorem dX10_restart_12 : decode cX10_restart 12 = .ok (.iinc 1 1, 3) := by decide +kernel
theorem dX10_restart_15 : decode cX10_restart 15 = .ok (.goto (-13), 3) := by decide +kernel
theorem dX10_restart_18 : decode cX10_restart 18 = .ok (.aload_n 0, 1) := by decide +kernel
theorem dX10_restart_19 : decode cX10_restart 19 = .ok (.iconst 0, 1) := by decide +kernel
theorem dX10_restart_20 : decode cX10_restart 20 = .ok (.putfield 133, 3) := by decide +kernel
theorem dX10_restart_23 : decode cX10_restart 23 = .ok (.iconst 0, 1) := by decide +kernel
theorem dX10_restart_24 : decode cX10_restart 24 = .ok (.istore_n 1, 1) := by decide +kernel
theorem dX10_restart_25 : decode cX10_restart 25 = .ok (.iload_n 1, 1) := by decide +kernel
theorem dX10_restart_26 : decode cX10_restart 26 = .ok (.iconst 2, 1) := by decide +kernel
theorem dX10_restart_27 : decode cX10_restart 27 = .ok (.if_icmp .ge 16, 3) := by decide +kernel
theorem dX10_restart_30 : decode cX10_restart 30 = .ok (.aload_n 0, 1) := by decide +kernel
theorem dX10_restart_31 : decode cX10_restart 31 = .ok (.getfield 29, 3) := by decide +kernel
theorem dX10_restart_34 : decode cX10_restart 34 = .ok (.iload_n 1, 1) := by decide +kernel
theorem dX10_restart_35 : decode cX10_restart 35 = .ok (.iconst 0, 1) := by decide +kernel
theorem dX10_restart_36 : decode cX10_restart 36 = .ok (.bastore, 1) := by decide +kernel
theorem dX10_restart_37 : decode cX10_restart 37 = .ok (.iinc 1 1, 3) := by decide +kernel
theorem dX10_restart_40 : decode cX10_restart 40 = .ok (.goto (-15), 3) := by decide +kernel
theorem dX10_restart_43 : decode cX10_restart 43 = .ok (.return_, 1) := by decide +kernel
theorem dX10_idle_0 : decode cX10_idle 0 = .ok (.aload_n 0, 1) := by decide +kernel
theorem dX10_idle_1 : decode cX10_idle 1 = .ok (.getfield 32, 3) := by decide +kernel
theorem dX10_idle_4 : decode cX10_idle 4 = .ok (.iload_n 1, 1) := by decide +kernel
theorem dX10_idle_5 : decode cX10_idle 5 = .ok (.iconst 0, 1) := by decide +kernel
theorem dX10_idle_6 : decode cX10_idle 6 = .ok (.iastore, 1) := by decide +kernel
theorem dX10_idle_7 : decode cX10_idle 7 = .ok (.aload_n 0, 1) := by decide +kernel
theorem dX10_idle_8 : decode cX10_idle 8 = .ok (.getfield 44, 3) := by decide +kernel
theorem dX10_idle_11 : decode cX10_idle 11 = .ok (.iload_n 1, 1) := by decide +kernel
theorem dX10_idle_12 : decode cX10_idle 12 = .ok (.iconst 0, 1) := by decide +kernel
theorem dX10_idle_13 : decode cX10_idle 13 = .ok (.iastore, 1) := by decide +kernel
theorem dX10_idle_14 : decode cX10_idle 14 = .ok (.iconst 0, 1) := by decide +kernel
theorem dX10_idle_15 : decode cX10_idle 15 = .ok (.istore_n 2, 1) := by decide +kernel
theorem dX10_idle_16 : decode cX10_idle 16 = .ok (.iload_n 2, 1) := by decide +kernel
theorem dX10_idle_17 : decode cX10_idle 17 = .ok (.bipush 64, 2) := by decide +kernel
theorem dX10_idle_19 : decode cX10_idle 19 = .ok (.if_icmp .ge 21, 3) := by decide +kernel
theorem dX10_idle_22 : decode cX10_idle 22 = .ok (.aload_n 0, 1) := by decide +kernel
theorem dX10_idle_23 : decode cX10_idle 23 = .ok (.getfield 35, 3) := by decide +kernel
theorem dX10_idle_26 : decode cX10_idle 26 = .ok (.bipush 64, 2) := by decide +kernel
theorem dX10_idle_28 : decode cX10_idle 28 = .ok (.iload_n 1, 1) := by decide +kernel
theorem dX10_idle_29 : decode cX10_idle 29 = .ok (.imul, 1) := by decide +kernel
theorem dX10_idle_30 : decode cX10_idle 30 = .ok (.iload_n 2, 1) := by decide +kernel
theorem dX10_idle_31 : decode cX10_idle 31 = .ok (.iadd, 1) := by decide +kernel
theorem dX10_idle_32 : decode cX10_idle 32 = .ok (.iconst 0, 1) := by decide +kernel
theorem dX10_idle_33 : decode cX10_idle 33 = .ok (.bastore, 1) := by decide +kernel
theorem dX10_idle_34 : decode cX10_idle 34 = .ok (.iinc 2 1, 3) := by decide +kernel
theorem dX10_idle_37 : decode cX10_idle 37 = .ok (.goto (-21), 3) := by decide +kernel
theorem dX10_idle_40 : decode cX10_idle 40 = .ok (.return_, 1) := by decide +kernel
set_option maxRecDepth 20000 in
theorem ggX10_begin_X10_fails : GoodIn wsX10_begin wsX10_fails := goodIn_r _ [8, 1, 9, 10, 11, 12, 13, 14, 15, 16, 17, 18, 19, 20, 21, 22, 23, 24, 25, 26, 27, 28, 29, 30, 31, 32, 33, 34, 35, 36, 37, 38, 39, 40, 41, 42, 43, 44, 45, 46] (by decide +kernel) (by decide +kernel)
set_option maxRecDepth 20000 in
theorem gX10_begin_X10_fails : GoodIn wsX10_begin (wsV RX10 136 RX10 yX10_fails wsX10_fails) := goodIn_app (goodIn_of _ (by decide +kernel)) ggX10_begin_X10_fails
theorem dX10_begin_0 : decode cX10_begin 0 = .ok (.aload_n 0, 1) := by decide +kernel
theorem dX10_begin_1 : decode cX10_begin 1 = .ok (.iconst 0, 1) := by decide +kernel
theorem dX10_begin_2 : decode cX10_begin 2 = .ok (.putfield 100, 3) := by decide +kernel
theorem dX10_begin_5 : decode cX10_begin 5 = .ok (.iconst 0, 1) := by decide +kernel
theorem dX10_begin_6 : decode cX10_begin 6 = .ok (.istore_n 1, 1) := by decide +kernel
theorem dX10_begin_7 : decode cX10_begin 7 = .ok (.aload_n 0, 1) := by decide +kernel
theorem dX10_begin_8 : decode cX10_begin 8 = .ok (.getfield 116, 3) := by decide +kernel
theorem dX10_begin_11 : decode cX10_begin 11 = .ok (.ifCond .eq 32, 3) := by decide +kernel
theorem dX10_begin_14 : decode cX10_begin 14 = .ok (.iload_n 1, 1) := by decide +kernel
theorem dX10_begin_15 : decode cX10_begin 15 = .ok (.iconst 3, 1) := by decide +kernel
theorem dX10_begin_16 : decode cX10_begin 16 = .ok (.if_icmp .ge 27, 3) := by decide +kernel
theorem dX10_begin_19 : decode cX10_begin 19 = .ok (.aload_n 0, 1) := by decide +kernel
theorem dX10_begin_20 : decode cX10_begin 20 = .ok (.getfield 32, 3) := by decide +kernel
theorem dX10_begin_23 : decode cX10_begin 23 = .ok (.iload_n 1, 1) := by decide +kernel
theorem dX10_begin_24 : decode cX10_begin 24 = .ok (.iaload, 1) := by decide +kernel
theorem dX10_begin_25 : decode cX10_begin 25 = .ok (.ifCond .ne 12, 3) := by decide +kernel
theorem dX10_begin_28 : decode cX10_begin 28 = .ok (.aload_n 0, 1) := by decide +kernel
theorem dX10_begin_29 : decode cX10_begin 29 = .ok (.getfield 32, 3) := by decide +kernel
theorem dX10_begin_32 : decode cX10_begin 32 = .ok (.iload_n 1, 1) := by decide +kernel
theorem dX10_begin_33 : decode cX10_begin 33 = .ok (.iconst 1, 1) := by decide +kernel
theorem dX10_begin_34 : decode cX10_begin 34 = .ok (.iastore, 1) := by decide +kernel
theorem dX10_begin_35 : decode cX10_begin 35 = .ok (.iload_n 1, 1) := by decide +kernel
theorem dX10_begin_36 : decode cX10_begin 36 = .ok (.ireturn, 1) := by decide +kernel
theorem dX10_begin_37 : decode cX10_begin 37 = .ok (.iinc 1 1, 3) := by decide +kernel
theorem dX10_begin_40 : decode cX10_begin 40 = .ok (.goto (-33), 3) := by decide +kernel
theorem dX10_begin_43 : decode cX10_begin 43 = .ok (.aload_n 0, 1) := by decide +kernel
theorem dX10_begin_44 : decode cX10_begin 44 = .ok (.iconst 1, 1) := by decide +kernel
theorem dX10_begin_45 : decode cX10_begin 45 = .ok (.invokevirtual 136, 3) := by decide +kernel
theorem dX10_begin_48 : decode cX10_begin 48 = .ok (.ireturn, 1) := by decide +kernel
theorem dX10_sees_0 : decode cX10_sees 0 = .ok (.aload_n 0, 1) := by decide +kernel
theorem dX10_sees_1 : decode cX10_sees 1 = .ok (.getfield 35, 3) := by decide +kernel
theorem dX10_sees_4 : decode cX10_sees 4 = .ok (.bipush 64, 2) := by decide +kernel
theorem dX10_sees_6 : decode cX10_sees 6 = .ok (.iload_n 1, 1) := by decide +kernel
theorem dX10_sees_7 : decode cX10_sees 7 = .ok (.imul, 1) := by decide +kernel
theorem dX10_sees_8 : decode cX10_sees 8 = .ok (.iload_n 2, 1) := by decide +kernel
theorem dX10_sees_9 : decode cX10_sees 9 = .ok (.iadd, 1) := by decide +kernel
theorem dX10_sees_10 : decode cX10_sees 10 = .ok (.baload, 1) := by decide +kernel
theorem dX10_sees_11 : decode cX10_sees 11 = .ok (.ifCond .eq 25, 3) := by decide +kernel
theorem dX10_sees_14 : decode cX10_sees 14 = .ok (.aload_n 0, 1) := by decide +kernel
theorem dX10_sees_15 : decode cX10_sees 15 = .ok (.getfield 38, 3) := by decide +kernel
theorem dX10_sees_18 : decode cX10_sees 18 = .ok (.bipush 64, 2) := by decide +kernel
theorem dX10_sees_20 : decode cX10_sees 20 = .ok (.iload_n 1, 1) := by decide +kernel
theorem dX10_sees_21 : decode cX10_sees 21 = .ok (.imul, 1) := by decide +kernel
theorem dX10_sees_22 : decode cX10_sees 22 = .ok (.iload_n 2, 1) := by decide +kernel
theorem dX10_sees_23 : decode cX10_sees 23 = .ok (.iadd, 1) := by decide +kernel
theorem dX10_sees_24 : decode cX10_sees 24 = .ok (.baload, 1) := by decide +kernel
theorem dX10_sees_25 : decode cX10_sees 25 = .ok (.ifCond .ne 7, 3) := by decide +kernel
theorem dX10_sees_28 : decode cX10_sees 28 = .ok (.iconst 1, 1) := by decide +kernel
theorem dX10_sees_29 : decode cX10_sees 29 = .ok (.goto 13, 3) := by decide +kernel
theorem dX10_sees_32 : decode cX10_sees 32 = .ok (.iconst 0, 1) := by decide +kernel
theorem dX10_sees_33 : decode cX10_sees 33 = .ok (.goto 9, 3) := by decide +kernel
theorem dX10_sees_36 : decode cX10_sees 36 = .ok (.aload_n 0, 1) := by decide +kernel
theorem dX10_sees_37 : decode cX10_sees 37 = .ok (.getfield 22, 3) := by decide +kernel
theorem dX10_sees_40 : decode cX10_sees 40 = .ok (.iload_n 2, 1) := by decide +kernel
theorem dX10_sees_41 : decode cX10_sees 41 = .ok (.baload, 1) := by decide +kernel
theorem dX10_sees_42 : decode cX10_sees 42 = .ok (.ireturn, 1) := by decide +kernel
theorem dX10_seen_0 : decode cX10_seen 0 = .ok (.aload_n 0, 1) := by decide +kernel
theorem dX10_seen_1 : decode cX10_seen 1 = .ok (.getfield 35, 3) := by decide +kernel
theorem dX10_seen_4 : decode cX10_seen 4 = .ok (.bipush 64, 2) := by decide +kernel
theorem dX10_seen_6 : decode cX10_seen 6 = .ok (.iload_n 1, 1) := by decide +kernel
theorem dX10_seen_7 : decode cX10_seen 7 = .ok (.imul, 1) := by decide +kernel
theorem dX10_seen_8 : decode cX10_seen 8 = .ok (.iload_n 2, 1) := by decide +kernel
theorem dX10_seen_9 : decode cX10_seen 9 = .ok (.iadd, 1) := by decide +kernel
theorem dX10_seen_10 : decode cX10_seen 10 = .ok (.baload, 1) := by decide +kernel
theorem dX10_seen_11 : decode cX10_seen 11 = .ok (.ifCond .eq 17, 3) := by decide +kernel
theorem dX10_seen_14 : decode cX10_seen 14 = .ok (.aload_n 0, 1) := by decide +kernel
theorem dX10_seen_15 : decode cX10_seen 15 = .ok (.getfield 41, 3) := by decide +kernel
theorem dX10_seen_18 : decode cX10_seen 18 = .ok (.bipush 64, 2) := by decide +kernel
theorem dX10_seen_20 : decode cX10_seen 20 = .ok (.iload_n 1, 1) := by decide +kernel
theorem dX10_seen_21 : decode cX10_seen 21 = .ok (.imul, 1) := by decide +kernel
theorem dX10_seen_22 : decode cX10_seen 22 = .ok (.iload_n 2, 1) := by decide +kernel
theorem dX10_seen_23 : decode cX10_seen 23 = .ok (.iadd, 1) := by decide +kernel
theorem dX10_seen_24 : decode cX10_seen 24 = .ok (.iaload, 1) := by decide +kernel
theorem dX10_seen_25 : decode cX10_seen 25 = .ok (.goto 9, 3) := by decide +kernel
theorem dX10_seen_28 : decode cX10_seen 28 = .ok (.aload_n 0, 1) := by decide +kernel
theorem dX10_seen_29 : decode cX10_seen 29 = .ok (.getfield 26, 3) := by decide +kernel
theorem dX10_seen_32 : decode cX10_seen 32 = .ok (.iload_n 2, 1) := by decide +kernel
theorem dX10_seen_33 : decode cX10_seen 33 = .ok (.iaload, 1) := by decide +kernel
theorem dX10_seen_34 : decode cX10_seen 34 = .ok (.ireturn, 1) := by decide +kernel
theorem dX10_change_0 : decode cX10_change 0 = .ok (.aload_n 0, 1) := by decide +kernel
theorem dX10_change_1 : decode cX10_change 1 = .ok (.getfield 35, 3) := by decide +kernel
theorem dX10_change_4 : decode cX10_change 4 = .ok (.bipush 64, 2) := by decide +kernel
theorem dX10_change_6 : decode cX10_change 6 = .ok (.iload_n 1, 1) := by decide +kernel
theorem dX10_change_7 : decode cX10_change 7 = .ok (.imul, 1) := by decide +kernel
theorem dX10_change_8 : decode cX10_change 8 = .ok (.iload_n 2, 1) := by decide +kernel
theorem dX10_change_9 : decode cX10_change 9 = .ok (.iadd, 1) := by decide +kernel
theorem dX10_change_10 : decode cX10_change 10 = .ok (.iconst 1, 1) := by decide +kernel
theorem dX10_change_11 : decode cX10_change 11 = .ok (.bastore, 1) := by decide +kernel
theorem dX10_change_12 : decode cX10_change 12 = .ok (.aload_n 0, 1) := by decide +kernel
theorem dX10_change_13 : decode cX10_change 13 = .ok (.getfield 38, 3) := by decide +kernel
theorem dX10_change_16 : decode cX10_change 16 = .ok (.bipush 64, 2) := by decide +kernel
theorem dX10_change_18 : decode cX10_change 18 = .ok (.iload_n 1, 1) := by decide +kernel
theorem dX10_change_19 : decode cX10_change 19 = .ok (.imul, 1) := by decide +kernel
theorem dX10_change_20 : decode cX10_change 20 = .ok (.iload_n 2, 1) := by decide +kernel
theorem dX10_change_21 : decode cX10_change 21 = .ok (.iadd, 1) := by decide +kernel
theorem dX10_change_22 : decode cX10_change 22 = .ok (.iconst 0, 1) := by decide +kernel
theorem dX10_change_23 : decode cX10_change 23 = .ok (.bastore, 1) := by decide +kernel
theorem dX10_change_24 : decode cX10_change 24 = .ok (.aload_n 0, 1) := by decide +kernel
theorem dX10_change_25 : decode cX10_change 25 = .ok (.getfield 41, 3) := by decide +kernel
theorem dX10_change_28 : decode cX10_change 28 = .ok (.bipush 64, 2) := by decide +kernel
theorem dX10_change_30 : decode cX10_change 30 = .ok (.iload_n 1, 1) := by decide +kernel
theorem dX10_change_31 : decode cX10_change 31 = .ok (.imul, 1) := by decide +kernel
theorem dX10_change_32 : decode cX10_change 32 = .ok (.iload_n 2, 1) := by decide +kernel
theorem dX10_change_33 : decode cX10_change 33 = .ok (.iadd, 1) := by decide +kernel
theorem dX10_change_34 : decode cX10_change 34 = .ok (.iload_n 3, 1) := by decide +kernel
theorem dX10_change_35 : decode cX10_change 35 = .ok (.iastore, 1) := by decide +kernel
theorem dX10_change_36 : decode cX10_change 36 = .ok (.return_, 1) := by decide +kernel
theorem dX10_drop_0 : decode cX10_drop 0 = .ok (.aload_n 0, 1) := by decide +kernel
theorem dX10_drop_1 : decode cX10_drop 1 = .ok (.getfield 35, 3) := by decide +kernel
theorem dX10_drop_4 : decode cX10_drop 4 = .ok (.bipush 64, 2) := by decide +kernel
theorem dX10_drop_6 : decode cX10_drop 6 = .ok (.iload_n 1, 1) := by decide +kernel
theorem dX10_drop_7 : decode cX10_drop 7 = .ok (.imul, 1) := by decide +kernel
theorem dX10_drop_8 : decode cX10_drop 8 = .ok (.iload_n 2, 1) := by decide +kernel
theorem dX10_drop_9 : decode cX10_drop 9 = .ok (.iadd, 1) := by decide +kernel
theorem dX10_drop_10 : decode cX10_drop 10 = .ok (.iconst 1, 1) := by decide +kernel
theorem dX10_drop_11 : decode cX10_drop 11 = .ok (.bastore, 1) := by decide +kernel
theorem dX10_drop_12 : decode cX10_drop 12 = .ok (.aload_n 0, 1) := by decide +kernel
theorem dX10_drop_13 : decode cX10_drop 13 = .ok (.getfield 38, 3) := by decide +kernel
theorem dX10_drop_16 : decode cX10_drop 16 = .ok (.bipush 64, 2) := by decide +kernel
theorem dX10_drop_18 : decode cX10_drop 18 = .ok (.iload_n 1, 1) := by decide +kernel
theorem dX10_drop_19 : decode cX10_drop 19 = .ok (.imul, 1) := by decide +kernel
theorem dX10_drop_20 : decode cX10_drop 20 = .ok (.iload_n 2, 1) := by decide +kernel
theorem dX10_drop_21 : decode cX10_drop 21 = .ok (.iadd, 1) := by decide +kernel
theorem dX10_drop_22 : decode cX10_drop 22 = .ok (.iconst 1, 1) := by decide +kernel
theorem dX10_drop_23 : decode cX10_drop 23 = .ok (.bastore, 1) := by decide +kernel
theorem dX10_drop_24 : decode cX10_drop 24 = .ok (.return_, 1) := by decide +kernel
set_option maxRecDepth 20000 in
theorem ggX10_put_X10_isSlot : GoodIn wsX10_put wsX10_isSlot := goodIn_r _ [6, 7, 8, 5, 9] (by decide +kernel) (by decide +kernel)
set_option maxRecDepth 20000 in
theorem gX10_put_X10_isSlot : GoodIn wsX10_put (va_wsS RX10 139 yX10_isSlot wsX10_isSlot) := goodIn_app (goodIn_of _ (by decide +kernel)) ggX10_put_X10_isSlot
set_option maxRecDepth 20000 in
theorem ggX10_put_X10_isKey : GoodIn wsX10_put wsX10_isKey := goodIn_r _ [12, 7, 8, 5, 9] (by decide +kernel) (by decide +kernel)
set_option maxRecDepth 20000 in
theorem gX10_put_X10_isKey : GoodIn wsX10_put (va_wsS RX10 143 yX10_isKey wsX10_isKey) := goodIn_app (goodIn_of _ (by decide +kernel)) ggX10_put_X10_isKey
set_option maxRecDepth 20000 in
theorem ggX10_put_X10_in : GoodIn wsX10_put wsX10_in := goodIn_r _ [9] (by decide +kernel) (by decide +kernel)
set_option maxRecDepth 20000 in
theorem gX10_put_X10_in : GoodIn wsX10_put (va_wsS RX10 104 yX10_in wsX10_in) := goodIn_app (goodIn_of _ (by decide +kernel)) ggX10_put_X10_in
set_option maxRecDepth 20000 in
theorem ggX10_put_X10_sees : GoodIn wsX10_put wsX10_sees := goodIn_r _ [16, 17, 18, 19, 25, 26, 27, 28, 29, 30, 31, 32, 33, 34, 35, 36, 37, 38, 39, 40, 41, 42, 43, 44, 45, 46, 47, 48, 49, 50, 51, 52, 53, 54, 55, 56, 57, 58, 59, 60, 61, 62] (by decide +kernel) (by decide +kernel)
set_option maxRecDepth 20000 in
theorem gX10_put_X10_sees : GoodIn wsX10_put (wsV RX10 146 RX10 yX10_sees wsX10_sees) := goodIn_app (goodIn_of _ (by decide +kernel)) ggX10_put_X10_sees
set_option maxRecDepth 20000 in
theorem ggX10_put_X10_change : GoodIn wsX10_put wsX10_change := goodIn_r _ [23, 17, 18, 24, 25, 26, 27, 28, 29, 30, 31, 32, 33, 34, 35, 36, 37, 38, 39, 40, 41, 42, 43, 44, 45, 46, 47, 48, 49, 50, 51, 52, 53, 54, 55, 56, 57, 58, 59, 60, 61, 62] (by decide +kernel) (by decide +kernel)
set_option maxRecDepth 20000 in
theorem gX10_put_X10_change : GoodIn wsX10_put (wsV RX10 150 RX10 yX10_change wsX10_change) := goodIn_app (goodIn_of _ (by decide +kernel)) ggX10_put_X10_change
theorem dX10_put_0 : decode cX10_put 0 = .ok (.aload_n 0, 1) := by decide +kernel
theorem dX10_put_1 : decode cX10_put 1 = .ok (.iload_n 1, 1) := by decide +kernel
theorem dX10_put_2 : decode cX10_put 2 = .ok (.invokestatic 139, 3) := by decide +kernel
theorem dX10_put_5 : decode cX10_put 5 = .ok (.ifCond .ne 7, 3) := by decide +kernel
theorem dX10_put_8 : decode cX10_put 8 = .ok (.iconst 1, 1) := by decide +kernel
theorem dX10_put_9 : decode cX10_put 9 = .ok (.goto 42, 3) := by decide +kernel
theorem dX10_put_12 : decode cX10_put 12 = .ok (.iload_n 2, 1) := by decide +kernel
theorem dX10_put_13 : decode cX10_put 13 = .ok (.invokestatic 143, 3) := by decide +kernel
theorem dX10_put_16 : decode cX10_put 16 = .ok (.ifCond .eq 16, 3) := by decide +kernel
theorem dX10_put_19 : decode cX10_put 19 = .ok (.iload_n 3, 1) := by decide +kernel
theorem dX10_put_20 : decode cX10_put 20 = .ok (.sipush (-9999), 3) := by decide +kernel
theorem dX10_put_23 : decode cX10_put 23 = .ok (.sipush 9999, 3) := by decide +kernel
theorem dX10_put_26 : decode cX10_put 26 = .ok (.invokestatic 104, 3) := by decide +kernel
theorem dX10_put_29 : decode cX10_put 29 = .ok (.ifCond .ne 7, 3) := by decide +kernel
theorem dX10_put_32 : decode cX10_put 32 = .ok (.iconst 2, 1) := by decide +kernel
theorem dX10_put_33 : decode cX10_put 33 = .ok (.goto 18, 3) := by decide +kernel
theorem dX10_put_36 : decode cX10_put 36 = .ok (.aload_n 0, 1) := by decide +kernel
theorem dX10_put_37 : decode cX10_put 37 = .ok (.getfield 32, 3) := by decide +kernel
theorem dX10_put_40 : decode cX10_put 40 = .ok (.iload_n 1, 1) := by decide +kernel
theorem dX10_put_41 : decode cX10_put 41 = .ok (.iaload, 1) := by decide +kernel
theorem dX10_put_42 : decode cX10_put 42 = .ok (.iconst 1, 1) := by decide +kernel
theorem dX10_put_43 : decode cX10_put 43 = .ok (.if_icmp .eq 7, 3) := by decide +kernel
theorem dX10_put_46 : decode cX10_put 46 = .ok (.iconst 3, 1) := by decide +kernel
theorem dX10_put_47 : decode cX10_put 47 = .ok (.goto 4, 3) := by decide +kernel
theorem dX10_put_50 : decode cX10_put 50 = .ok (.iconst 0, 1) := by decide +kernel
theorem dX10_put_51 : decode cX10_put 51 = .ok (.putfield 100, 3) := by decide +kernel
theorem dX10_put_54 : decode cX10_put 54 = .ok (.aload_n 0, 1) := by decide +kernel
theorem dX10_put_55 : decode cX10_put 55 = .ok (.getfield 100, 3) := by decide +kernel
theorem dX10_put_58 : decode cX10_put 58 = .ok (.ifCond .le 5, 3) := by decide +kernel
theorem dX10_put_61 : decode cX10_put 61 = .ok (.iconst 0, 1) := by decide +kernel
theorem dX10_put_62 : decode cX10_put 62 = .ok (.ireturn, 1) := by decide +kernel
theorem dX10_put_63 : decode cX10_put 63 = .ok (.aload_n 0, 1) := by decide +kernel
theorem dX10_put_64 : decode cX10_put 64 = .ok (.iload_n 1, 1) := by decide +kernel
theorem dX10_put_65 : decode cX10_put 65 = .ok (.iload_n 2, 1) := by decide +kernel
theorem dX10_put_66 : decode cX10_put 66 = .ok (.invokevirtual 146, 3) := by decide +kernel
theorem dX10_put_69 : decode cX10_put 69 = .ok (.istore 4, 2) := by decide +kernel
theorem dX10_put_71 : decode cX10_put 71 = .ok (.aload_n 0, 1) := by decide +kernel
theorem dX10_put_72 : decode cX10_put 72 = .ok (.iload_n 1, 1) := by decide +kernel
theorem dX10_put_73 : decode cX10_put 73 = .ok (.iload_n 2, 1) := by decide +kernel
theorem dX10_put_74 : decode cX10_put 74 = .ok (.iload_n 3, 1) := by decide +kernel
theorem dX10_put_75 : decode cX10_put 75 = .ok (.invokevirtual 150, 3) := by decide +kernel
theorem dX10_put_78 : decode cX10_put 78 = .ok (.iload 4, 2) := by decide +kernel
theorem dX10_put_80 : decode cX10_put 80 = .ok (.ireturn, 1) := by decide +kernel
set_option maxRecDepth 20000 in
theorem ggX10_remove_X10_isSlot : GoodIn wsX10_remove wsX10_isSlot := goodIn_r _ [6, 7, 8, 5, 9] (by decide +kernel) (by decide +kernel)
set_option maxRecDepth 20000 in
theorem gX10_remove_X10_isSlot : GoodIn wsX10_remove (va_wsS RX10 139 yX10_isSlot wsX10_isSlot) := goodIn_app (goodIn_of _ (by decide +kernel)) ggX10_remove_X10_isSlot
set_option maxRecDepth 20000 in
theorem ggX10_remove_X10_isKey : GoodIn wsX10_remove wsX10_isKey := goodIn_r _ [12, 7, 8, 5, 9] (by decide +kernel) (by decide +kernel)
set_option maxRecDepth 20000 in
theorem gX10_remove_X10_isKey : GoodIn wsX10_remove (va_wsS RX10 143 yX10_isKey wsX10_isKey) := goodIn_app (goodIn_of _ (by decide +kernel)) ggX10_remove_X10_isKey
set_option maxRecDepth 20000 in
theorem ggX10_remove_X10_sees : GoodIn wsX10_remove wsX10_sees := goodIn_r _ [16, 17, 18, 19, 30, 31, 32, 33, 34, 35, 36, 37, 38, 39, 40, 41, 42, 43, 44, 45, 46, 47, 48, 49, 50, 51, 52, 53, 54, 55, 56, 57, 58, 59, 60, 61, 62, 63, 64, 65, 66, 67] (by decide +kernel) (by decide +kernel)
set_option maxRecDepth 20000 in
theorem gX10_remove_X10_sees : GoodIn wsX10_remove (wsV RX10 146 RX10 yX10_sees wsX10_sees) := goodIn_app (goodIn_of _ (by decide +kernel)) ggX10_remove_X10_sees
set_option maxRecDepth 20000 in
theorem ggX10_remove_X10_seen : GoodIn wsX10_remove wsX10_seen := goodIn_r _ [23, 17, 24, 25, 30, 31, 32, 33, 34, 35, 36, 37, 38, 39, 40, 41, 42, 43, 44, 45, 46, 47, 48, 49, 50, 51, 52, 53, 54, 55, 56, 57, 58, 59, 60, 61, 62, 63, 64, 65, 66, 67] (by decide +kernel) (by decide +kernel)
set_option maxRecDepth 20000 in
theorem gX10_remove_X10_seen : GoodIn wsX10_remove (wsV RX10 154 RX10 yX10_seen wsX10_seen) := goodIn_app (goodIn_of _ (by decide +kernel)) ggX10_remove_X10_seen
set_option maxRecDepth 20000 in
theorem ggX10_remove_X10_drop : GoodIn wsX10_remove wsX10_drop := goodIn_r _ [29, 17, 18, 30, 31, 32, 33, 34, 35, 36, 37, 38, 39, 40, 41, 42, 43, 44, 45, 46, 47, 48, 49, 50, 51, 52, 53, 54, 55, 56, 57, 58, 59, 60, 61, 62, 63, 64, 65, 66, 67] (by decide +kernel) (by decide +kernel)
set_option maxRecDepth 20000 in
theorem gX10_remove_X10_drop : GoodIn wsX10_remove (wsV RX10 157 RX10 yX10_drop wsX10_drop) := goodIn_app (goodIn_of _ (by decide +kernel)) ggX10_remove_X10_drop
theorem dX10_remove_0 : decode cX10_remove 0 = .ok (.aload_n 0, 1) := by decide +kernel
theorem dX10_remove_1 : decode cX10_remove 1 = .ok (.iload_n 1, 1) := by decide +kernel
theorem dX10_remove_2 : decode cX10_remove 2 = .ok (.invokestatic 139, 3) := by decide +kernel
theorem dX10_remove_5 : decode cX10_remove 5 = .ok (.ifCond .ne 7, 3) := by decide +kernel
theorem dX10_remove_8 : decode cX10_remove 8 = .ok (.iconst 1, 1) := by decide +kernel
theorem dX10_remove_9 : decode cX10_remove 9 = .ok (.goto 42, 3) := by decide +kernel
theorem dX10_remove_12 : decode cX10_remove 12 = .ok (.iload_n 2, 1) := by decide +kernel
theorem dX10_remove_13 : decode cX10_remove 13 = .ok (.invokestatic 143, 3) := by decide +kernel
theorem dX10_remove_16 : decode cX10_remove 16 = .ok (.ifCond .ne 7, 3) := by decide +kernel
theorem dX10_remove_19 : decode cX10_remove 19 = .ok (.iconst 2, 1) := by decide +kernel
theorem dX10_remove_20 : decode cX10_remove 20 = .ok (.goto 31, 3) := by decide +kernel
theorem dX10_remove_23 : decode cX10_remove 23 = .ok (.aload_n 0, 1) := by decide +kernel
theorem dX10_remove_24 : decode cX10_remove 24 = .ok (.getfield 32, 3) := by decide +kernel
theorem dX10_remove_27 : decode cX10_remove 27 = .ok (.iload_n 1, 1) := by decide +kernel
theorem dX10_remove_28 : decode cX10_remove 28 = .ok (.iaload, 1) := by decide +kernel
theorem dX10_remove_29 : decode cX10_remove 29 = .ok (.iconst 1, 1) := by decide +kernel
theorem dX10_remove_30 : decode cX10_remove 30 = .ok (.if_icmp .eq 7, 3) := by decide +kernel
theorem dX10_remove_33 : decode cX10_remove 33 = .ok (.iconst 3, 1) := by decide +kernel
theorem dX10_remove_34 : decode cX10_remove 34 = .ok (.goto 17, 3) := by decide +kernel
theorem dX10_remove_37 : decode cX10_remove 37 = .ok (.aload_n 0, 1) := by decide +kernel
theorem dX10_remove_38 : decode cX10_remove 38 = .ok (.iload_n 1, 1) := by decide +kernel
theorem dX10_remove_39 : decode cX10_remove 39 = .ok (.iload_n 2, 1) := by decide +kernel
theorem dX10_remove_40 : decode cX10_remove 40 = .ok (.invokevirtual 146, 3) := by decide +kernel
theorem dX10_remove_43 : decode cX10_remove 43 = .ok (.ifCond .ne 7, 3) := by decide +kernel
theorem dX10_remove_46 : decode cX10_remove 46 = .ok (.iconst 4, 1) := by decide +kernel
theorem dX10_remove_47 : decode cX10_remove 47 = .ok (.goto 4, 3) := by decide +kernel
theorem dX10_remove_50 : decode cX10_remove 50 = .ok (.iconst 0, 1) := by decide +kernel
theorem dX10_remove_51 : decode cX10_remove 51 = .ok (.putfield 100, 3) := by decide +kernel
theorem dX10_remove_54 : decode cX10_remove 54 = .ok (.aload_n 0, 1) := by decide +kernel
theorem dX10_remove_55 : decode cX10_remove 55 = .ok (.getfield 100, 3) := by decide +kernel
theorem dX10_remove_58 : decode cX10_remove 58 = .ok (.ifCond .le 5, 3) := by decide +kernel
theorem dX10_remove_61 : decode cX10_remove 61 = .ok (.iconst 0, 1) := by decide +kernel
theorem dX10_remove_62 : decode cX10_remove 62 = .ok (.ireturn, 1) := by decide +kernel
theorem dX10_remove_63 : decode cX10_remove 63 = .ok (.aload_n 0, 1) := by decide +kernel
theorem dX10_remove_64 : decode cX10_remove 64 = .ok (.iload_n 1, 1) := by decide +kernel
theorem dX10_remove_65 : decode cX10_remove 65 = .ok (.iload_n 2, 1) := by decide +kernel
theorem dX10_remove_66 : decode cX10_remove 66 = .ok (.invokevirtual 154, 3) := by decide +kernel
theorem dX10_remove_69 : decode cX10_remove 69 = .ok (.istore_n 3, 1) := by decide +kernel
theorem dX10_remove_70 : decode cX10_remove 70 = .ok (.aload_n 0, 1) := by decide +kernel
theorem dX10_remove_71 : decode cX10_remove 71 = .ok (.iload_n 1, 1) := by decide +kernel
theorem dX10_remove_72 : decode cX10_remove 72 = .ok (.iload_n 2, 1) := by decide +kernel
theorem dX10_remove_73 : decode cX10_remove 73 = .ok (.invokevirtual 157, 3) := by decide +kernel
theorem dX10_remove_76 : decode cX10_remove 76 = .ok (.iload_n 3, 1) := by decide +kernel
theorem dX10_remove_77 : decode cX10_remove 77 = .ok (.ireturn, 1) := by decide +kernel
set_option maxRecDepth 20000 in
theorem ggX10_get_X10_isSlot : GoodIn wsX10_get wsX10_isSlot := goodIn_r _ [6, 7, 8, 5, 9] (by decide +kernel) (by decide +kernel)
set_option maxRecDepth 20000 in
theorem gX10_get_X10_isSlot : GoodIn wsX10_get (va_wsS RX10 139 yX10_isSlot wsX10_isSlot) := goodIn_app (goodIn_of _ (by decide +kernel)) ggX10_get_X10_isSlot
set_option maxRecDepth 20000 in
theorem ggX10_get_X10_isKey : GoodIn wsX10_get wsX10_isKey := goodIn_r _ [12, 7, 8, 5, 9] (by decide +kernel) (by decide +kernel)
set_option maxRecDepth 20000 in
theorem gX10_get_X10_isKey : GoodIn wsX10_get (va_wsS RX10 143 yX10_isKey wsX10_isKey) := goodIn_app (goodIn_of _ (by decide +kernel)) ggX10_get_X10_isKey
set_option maxRecDepth 20000 in
theorem ggX10_get_X10_sees : GoodIn wsX10_get wsX10_sees := goodIn_r _ [16, 17, 18, 19, 26, 27, 28, 29, 30, 31, 32, 33, 34, 35, 36, 37, 38, 39, 40, 41, 42, 43, 44, 45, 46, 47, 48, 49, 50, 51, 52, 53, 54, 55, 56, 57, 58, 59, 60, 61, 62, 63] (by decide +kernel) (by decide +kernel)
set_option maxRecDepth 20000 in
theorem gX10_get_X10_sees : GoodIn wsX10_get (wsV RX10 146 RX10 yX10_sees wsX10_sees) := goodIn_app (goodIn_of _ (by decide +kernel)) ggX10_get_X10_sees
set_option maxRecDepth 20000 in
theorem ggX10_get_X10_seen : GoodIn wsX10_get wsX10_seen := goodIn_r _ [23, 17, 24, 25, 26, 27, 28, 29, 30, 31, 32, 33, 34, 35, 36, 37, 38, 39, 40, 41, 42, 43, 44, 45, 46, 47, 48, 49, 50, 51, 52, 53, 54, 55, 56, 57, 58, 59, 60, 61, 62, 63] (by decide +kernel) (by decide +kernel)
set_option maxRecDepth 20000 in
theorem gX10_get_X10_seen : GoodIn wsX10_get (wsV RX10 154 RX10 yX10_seen wsX10_seen) := goodIn_app (goodIn_of _ (by decide +kernel)) ggX10_get_X10_seen
theorem dX10_get_0 : decode cX10_get 0 = .ok (.aload_n 0, 1) := by decide +kernel
theorem dX10_get_1 : decode cX10_get 1 = .ok (.iload_n 1, 1) := by decide +kernel
theorem dX10_get_2 : decode cX10_get 2 = .ok (.invokestatic 139, 3) := by decide +kernel
theorem dX10_get_5 : decode cX10_get 5 = .ok (.ifCond .ne 7, 3) := by decide +kernel
theorem dX10_get_8 : decode cX10_get 8 = .ok (.iconst 1, 1) := by decide +kernel
theorem dX10_get_9 : decode cX10_get 9 = .ok (.goto 41, 3) := by decide +kernel
theorem dX10_get_12 : decode cX10_get 12 = .ok (.iload_n 2, 1) := by decide +kernel
theorem dX10_get_13 : decode cX10_get 13 = .ok (.invokestatic 143, 3) := by decide +kernel
theorem dX10_get_16 : decode cX10_get 16 = .ok (.ifCond .ne 7, 3) := by decide +kernel
theorem dX10_get_19 : decode cX10_get 19 = .ok (.iconst 2, 1) := by decide +kernel
theorem dX10_get_20 : decode cX10_get 20 = .ok (.goto 30, 3) := by decide +kernel
theorem dX10_get_23 : decode cX10_get 23 = .ok (.aload_n 0, 1) := by decide +kernel
theorem dX10_get_24 : decode cX10_get 24 = .ok (.getfield 32, 3) := by decide +kernel
theorem dX10_get_27 : decode cX10_get 27 = .ok (.iload_n 1, 1) := by decide +kernel
theorem dX10_get_28 : decode cX10_get 28 = .ok (.iaload, 1) := by decide +kernel
theorem dX10_get_29 : decode cX10_get 29 = .ok (.ifCond .ne 7, 3) := by decide +kernel
theorem dX10_get_32 : decode cX10_get 32 = .ok (.iconst 3, 1) := by decide +kernel
theorem dX10_get_33 : decode cX10_get 33 = .ok (.goto 17, 3) := by decide +kernel
theorem dX10_get_36 : decode cX10_get 36 = .ok (.aload_n 0, 1) := by decide +kernel
theorem dX10_get_37 : decode cX10_get 37 = .ok (.iload_n 1, 1) := by decide +kernel
theorem dX10_get_38 : decode cX10_get 38 = .ok (.iload_n 2, 1) := by decide +kernel
theorem dX10_get_39 : decode cX10_get 39 = .ok (.invokevirtual 146, 3) := by decide +kernel
theorem dX10_get_42 : decode cX10_get 42 = .ok (.ifCond .ne 7, 3) := by decide +kernel
theorem dX10_get_45 : decode cX10_get 45 = .ok (.iconst 4, 1) := by decide +kernel
theorem dX10_get_46 : decode cX10_get 46 = .ok (.goto 4, 3) := by decide +kernel
theorem dX10_get_49 : decode cX10_get 49 = .ok (.iconst 0, 1) := by decide +kernel
theorem dX10_get_50 : decode cX10_get 50 = .ok (.putfield 100, 3) := by decide +kernel
theorem dX10_get_53 : decode cX10_get 53 = .ok (.aload_n 0, 1) := by decide +kernel
theorem dX10_get_54 : decode cX10_get 54 = .ok (.getfield 100, 3) := by decide +kernel
theorem dX10_get_57 : decode cX10_get 57 = .ok (.ifCond .le 7, 3) := by decide +kernel
theorem dX10_get_60 : decode cX10_get 60 = .ok (.iconst 0, 1) := by decide +kernel
theorem dX10_get_61 : decode cX10_get 61 = .ok (.goto 9, 3) := by decide +kernel
theorem dX10_get_64 : decode cX10_get 64 = .ok (.aload_n 0, 1) := by decide +kernel
theorem dX10_get_65 : decode cX10_get 65 = .ok (.iload_n 1, 1) := by decide +kernel
theorem dX10_get_66 : decode cX10_get 66 = .ok (.iload_n 2, 1) := by decide +kernel
theorem dX10_get_67 : decode cX10_get 67 = .ok (.invokevirtual 154, 3) := by decide +kernel
theorem dX10_get_70 : decode cX10_get 70 = .ok (.ireturn, 1) := by decide +kernel
theorem dX10_changesOf_0 : decode cX10_changesOf 0 = .ok (.iconst 0, 1) := by decide +kernel
theorem dX10_changesOf_1 : decode cX10_changesOf 1 = .ok (.istore_n 2, 1) := by decide +kernel
theorem dX10_changesOf_2 : decode cX10_changesOf 2 = .ok (.iconst 0, 1) := by decide +kernel
theorem dX10_changesOf_3 : decode cX10_changesOf 3 = .ok (.istore_n 3, 1) := by decide +kernel
theorem dX10_changesOf_4 : decode cX10_changesOf 4 = .ok (.iload_n 3, 1) := by decide +kernel
theorem dX10_changesOf_5 : decode cX10_changesOf 5 = .ok (.bipush 64, 2) := by decide +kernel
theorem dX10_changesOf_7 : decode cX10_changesOf 7 = .ok (.if_icmp .ge 31, 3) := by decide +kernel
theorem dX10_changesOf_10 : decode cX10_changesOf 10 = .ok (.iload_n 2, 1) := by decide +kernel
theorem dX10_changesOf_11 : decode cX10_changesOf 11 = .ok (.aload_n 0, 1) := by decide +kernel
theorem dX10_changesOf_12 : decode cX10_changesOf 12 = .ok (.getfield 35, 3) := by decide +kernel
theorem dX10_changesOf_15 : decode cX10_changesOf 15 = .ok (.bipush 64, 2) := by decide +kernel
theorem dX10_changesOf_17 : decode cX10_changesOf 17 = .ok (.iload_n 1, 1) := by decide +kernel
theorem dX10_changesOf_18 : decode cX10_changesOf 18 = .ok (.imul, 1) := by decide +kernel
theorem dX10_changesOf_19 : decode cX10_changesOf 19 = .ok (.iload_n 3, 1) := by decide +kernel
theorem dX10_changesOf_20 : decode cX10_changesOf 20 = .ok (.iadd, 1) := by decide +kernel
theorem dX10_changesOf_21 : decode cX10_changesOf 21 = .ok (.baload, 1) := by decide +kernel
theorem dX10_changesOf_22 : decode cX10_changesOf 22 = .ok (.ifCond .eq 7, 3) := by decide +kernel
theorem dX10_changesOf_25 : decode cX10_changesOf 25 = .ok (.iconst 1, 1) := by decide +kernel
theorem dX10_changesOf_26 : decode cX10_changesOf 26 = .ok (.goto 4, 3) := by decide +kernel
theorem dX10_changesOf_29 : decode cX10_changesOf 29 = .ok (.iconst 0, 1) := by decide +kernel
theorem dX10_changesOf_30 : decode cX10_changesOf 30 = .ok (.iadd, 1) := by decide +kernel
theorem dX10_changesOf_31 : decode cX10_changesOf 31 = .ok (.istore_n 2, 1) := by decide +kernel
theorem dX10_changesOf_32 : decode cX10_changesOf 32 = .ok (.iinc 3 1, 3) := by decide +kernel
theorem dX10_changesOf_35 : decode cX10_changesOf 35 = .ok (.goto (-31), 3) := by decide +kernel
theorem dX10_changesOf_38 : decode cX10_changesOf 38 = .ok (.iload_n 2, 1) := by decide +kernel
theorem dX10_changesOf_39 : decode cX10_changesOf 39 = .ok (.ireturn, 1) := by decide +kernel
set_option maxRecDepth 20000 in
theorem ggX10_changes_X10_isSlot : GoodIn wsX10_changes wsX10_isSlot := goodIn_r _ [5, 6, 7, 4, 8] (by decide +kernel) (by decide +kernel)
set_option maxRecDepth 20000 in
theorem gX10_changes_X10_isSlot : GoodIn wsX10_changes (va_wsS RX10 139 yX10_isSlot wsX10_isSlot) := goodIn_app (goodIn_of _ (by decide +kernel)) ggX10_changes_X10_isSlot
set_option maxRecDepth 20000 in
theorem ggX10_changes_X10_changesOf : GoodIn wsX10_changes wsX10_changesOf := goodIn_r _ [12, 13, 14, 15, 16, 17, 18, 19, 20, 21, 22, 23, 24, 25, 26, 27, 28, 29, 30, 31, 32, 33, 34, 35, 36, 37, 38, 39, 40, 41, 42, 43, 44, 45, 46, 47, 48, 49, 50, 51] (by decide +kernel) (by decide +kernel)
set_option maxRecDepth 20000 in
theorem gX10_changes_X10_changesOf : GoodIn wsX10_changes (wsV RX10 161 RX10 yX10_changesOf wsX10_changesOf) := goodIn_app (goodIn_of _ (by decide +kernel)) ggX10_changes_X10_changesOf
theorem dX10_changes_0 : decode cX10_changes 0 = .ok (.aload_n 0, 1) := by decide +kernel
theorem dX10_changes_1 : decode cX10_changes 1 = .ok (.iload_n 1, 1) := by decide +kernel
theorem dX10_changes_2 : decode cX10_changes 2 = .ok (.invokestatic 139, 3) := by decide +kernel
theorem dX10_changes_5 : decode cX10_changes 5 = .ok (.ifCond .eq 7, 3) := by decide +kernel
theorem dX10_changes_8 : decode cX10_changes 8 = .ok (.iconst 0, 1) := by decide +kernel
theorem dX10_changes_9 : decode cX10_changes 9 = .ok (.goto 4, 3) := by decide +kernel
theorem dX10_changes_12 : decode cX10_changes 12 = .ok (.iconst 1, 1) := by decide +kernel
theorem dX10_changes_13 : decode cX10_changes 13 = .ok (.putfield 100, 3) := by decide +kernel
theorem dX10_changes_16 : decode cX10_changes 16 = .ok (.aload_n 0, 1) := by decide +kernel
theorem dX10_changes_17 : decode cX10_changes 17 = .ok (.getfield 100, 3) := by decide +kernel
theorem dX10_changes_20 : decode cX10_changes 20 = .ok (.ifCond .le 7, 3) := by decide +kernel
theorem dX10_changes_23 : decode cX10_changes 23 = .ok (.iconst 0, 1) := by decide +kernel
theorem dX10_changes_24 : decode cX10_changes 24 = .ok (.goto 8, 3) := by decide +kernel
theorem dX10_changes_27 : decode cX10_changes 27 = .ok (.aload_n 0, 1) := by decide +kernel
theorem dX10_changes_28 : decode cX10_changes 28 = .ok (.iload_n 1, 1) := by decide +kernel
theorem dX10_changes_29 : decode cX10_changes 29 = .ok (.invokevirtual 161, 3) := by decide +kernel
theorem dX10_changes_32 : decode cX10_changes 32 = .ok (.ireturn, 1) := by decide +kernel
set_option maxRecDepth 20000 in
theorem ggX10_slotState_X10_isSlot : GoodIn wsX10_slotState wsX10_isSlot := goodIn_r _ [6, 7, 8, 5, 9] (by decide +kernel) (by decide +kernel)
set_option maxRecDepth 20000 in
theorem gX10_slotState_X10_isSlot : GoodIn wsX10_slotState (va_wsS RX10 139 yX10_isSlot wsX10_isSlot) := goodIn_app (goodIn_of _ (by decide +kernel)) ggX10_slotState_X10_isSlot
theorem dX10_slotState_0 : decode cX10_slotState 0 = .ok (.aload_n 0, 1) := by decide +kernel
theorem dX10_slotState_1 : decode cX10_slotState 1 = .ok (.iload_n 1, 1) := by decide +kernel
theorem dX10_slotState_2 : decode cX10_slotState 2 = .ok (.invokestatic 139, 3) := by decide +kernel
theorem dX10_slotState_5 : decode cX10_slotState 5 = .ok (.ifCond .eq 7, 3) := by decide +kernel
theorem dX10_slotState_8 : decode cX10_slotState 8 = .ok (.iconst 0, 1) := by decide +kernel
theorem dX10_slotState_9 : decode cX10_slotState 9 = .ok (.goto 4, 3) := by decide +kernel
theorem dX10_slotState_12 : decode cX10_slotState 12 = .ok (.iconst 1, 1) := by decide +kernel
theorem dX10_slotState_13 : decode cX10_slotState 13 = .ok (.putfield 100, 3) := by decide +kernel
theorem dX10_slotState_16 : decode cX10_slotState 16 = .ok (.aload_n 0, 1) := by decide +kernel
theorem dX10_slotState_17 : decode cX10_slotState 17 = .ok (.getfield 100, 3) := by decide +kernel
theorem dX10_slotState_20 : decode cX10_slotState 20 = .ok (.ifCond .le 7, 3) := by decide +kernel
theorem dX10_slotState_23 : decode cX10_slotState 23 = .ok (.iconst 0, 1) := by decide +kernel
theorem dX10_slotState_24 : decode cX10_slotState 24 = .ok (.goto 9, 3) := by decide +kernel
theorem dX10_slotState_27 : decode cX10_slotState 27 = .ok (.aload_n 0, 1) := by decide +kernel
theorem dX10_slotState_28 : decode cX10_slotState 28 = .ok (.getfield 32, 3) := by decide +kernel
theorem dX10_slotState_31 : decode cX10_slotState 31 = .ok (.iload_n 1, 1) := by decide +kernel
theorem dX10_slotState_32 : decode cX10_slotState 32 = .ok (.iaload, 1) := by decide +kernel
theorem dX10_slotState_33 : decode cX10_slotState 33 = .ok (.ireturn, 1) := by decide +kernel
set_option maxRecDepth 20000 in
theorem ggX10_mark_X10_isSlot : GoodIn wsX10_mark wsX10_isSlot := goodIn_r _ [17, 18, 19, 16, 20] (by decide +kernel) (by decide +kernel)
set_option maxRecDepth 20000 in
theorem gX10_mark_X10_isSlot : GoodIn wsX10_mark (va_wsS RX10 139 yX10_isSlot wsX10_isSlot) := goodIn_app (goodIn_of _ (by decide +kernel)) ggX10_mark_X10_isSlot
theorem dX10_mark_0 : decode cX10_mark 0 = .ok (.aload_n 0, 1) := by decide +kernel
theorem dX10_mark_1 : decode cX10_mark 1 = .ok (.iload_n 1, 1) := by decide +kernel
theorem dX10_mark_2 : decode cX10_mark 2 = .ok (.invokestatic 139, 3) := by decide +kernel
theorem dX10_mark_5 : decode cX10_mark 5 = .ok (.ifCond .ne 7, 3) := by decide +kernel
theorem dX10_mark_8 : decode cX10_mark 8 = .ok (.iconst 1, 1) := by decide +kernel
theorem dX10_mark_9 : decode cX10_mark 9 = .ok (.goto 28, 3) := by decide +kernel
theorem dX10_mark_12 : decode cX10_mark 12 = .ok (.aload_n 0, 1) := by decide +kernel
theorem dX10_mark_13 : decode cX10_mark 13 = .ok (.getfield 32, 3) := by decide +kernel
theorem dX10_mark_16 : decode cX10_mark 16 = .ok (.iload_n 1, 1) := by decide +kernel
theorem dX10_mark_17 : decode cX10_mark 17 = .ok (.iaload, 1) := by decide +kernel
theorem dX10_mark_18 : decode cX10_mark 18 = .ok (.iconst 1, 1) := by decide +kernel
theorem dX10_mark_19 : decode cX10_mark 19 = .ok (.if_icmp .ne 13, 3) := by decide +kernel
theorem dX10_mark_22 : decode cX10_mark 22 = .ok (.aload_n 0, 1) := by decide +kernel
theorem dX10_mark_23 : decode cX10_mark 23 = .ok (.getfield 44, 3) := by decide +kernel
theorem dX10_mark_26 : decode cX10_mark 26 = .ok (.iload_n 1, 1) := by decide +kernel
theorem dX10_mark_27 : decode cX10_mark 27 = .ok (.iaload, 1) := by decide +kernel
theorem dX10_mark_28 : decode cX10_mark 28 = .ok (.iconst 3, 1) := by decide +kernel
theorem dX10_mark_29 : decode cX10_mark 29 = .ok (.if_icmp .ne 7, 3) := by decide +kernel
theorem dX10_mark_32 : decode cX10_mark 32 = .ok (.iconst 2, 1) := by decide +kernel
theorem dX10_mark_33 : decode cX10_mark 33 = .ok (.goto 4, 3) := by decide +kernel
theorem dX10_mark_36 : decode cX10_mark 36 = .ok (.iconst 0, 1) := by decide +kernel
theorem dX10_mark_37 : decode cX10_mark 37 = .ok (.putfield 100, 3) := by decide +kernel
theorem dX10_mark_40 : decode cX10_mark 40 = .ok (.aload_n 0, 1) := by decide +kernel
theorem dX10_mark_41 : decode cX10_mark 41 = .ok (.getfield 100, 3) := by decide +kernel
theorem dX10_mark_44 : decode cX10_mark 44 = .ok (.ifCond .le 5, 3) := by decide +kernel
theorem dX10_mark_47 : decode cX10_mark 47 = .ok (.iconst 0, 1) := by decide +kernel
theorem dX10_mark_48 : decode cX10_mark 48 = .ok (.ireturn, 1) := by decide +kernel
theorem dX10_mark_49 : decode cX10_mark 49 = .ok (.bipush 64, 2) := by decide +kernel
theorem dX10_mark_51 : decode cX10_mark 51 = .ok (.iconst 3, 1) := by decide +kernel
theorem dX10_mark_52 : decode cX10_mark 52 = .ok (.iload_n 1, 1) := by decide +kernel
theorem dX10_mark_53 : decode cX10_mark 53 = .ok (.imul, 1) := by decide +kernel
theorem dX10_mark_54 : decode cX10_mark 54 = .ok (.aload_n 0, 1) := by decide +kernel
theorem dX10_mark_55 : decode cX10_mark 55 = .ok (.getfield 44, 3) := by decide +kernel
theorem dX10_mark_58 : decode cX10_mark 58 = .ok (.iload_n 1, 1) := by decide +kernel
theorem dX10_mark_59 : decode cX10_mark 59 = .ok (.iaload, 1) := by decide +kernel
theorem dX10_mark_60 : decode cX10_mark 60 = .ok (.iadd, 1) := by decide +kernel
theorem dX10_mark_61 : decode cX10_mark 61 = .ok (.imul, 1) := by decide +kernel
theorem dX10_mark_62 : decode cX10_mark 62 = .ok (.istore_n 2, 1) := by decide +kernel
theorem dX10_mark_63 : decode cX10_mark 63 = .ok (.aload_n 0, 1) := by decide +kernel
theorem dX10_mark_64 : decode cX10_mark 64 = .ok (.getfield 35, 3) := by decide +kernel
theorem dX10_mark_67 : decode cX10_mark 67 = .ok (.bipush 64, 2) := by decide +kernel
theorem dX10_mark_69 : decode cX10_mark 69 = .ok (.iload_n 1, 1) := by decide +kernel
theorem dX10_mark_70 : decode cX10_mark 70 = .ok (.imul, 1) := by decide +kernel
theorem dX10_mark_71 : decode cX10_mark 71 = .ok (.aload_n 0, 1) := by decide +kernel
theorem dX10_mark_72 : decode cX10_mark 72 = .ok (.getfield 47, 3) := by decide +kernel
theorem dX10_mark_75 : decode cX10_mark 75 = .ok (.iload_n 2, 1) := by decide +kernel
theorem dX10_mark_76 : decode cX10_mark 76 = .ok (.bipush 64, 2) := by decide +kernel
theorem dX10_mark_78 : decode cX10_mark 78 = .ok (.invokestatic 164, 3) := by decide +kernel
