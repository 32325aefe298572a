theorem dX8_differentKeys_45 : decode cX8_differentKeys 45 = .ok (.getfield 15, 3) := by decide +kernel
theorem dX8_differentKeys_48 : decode cX8_differentKeys 48 = .ok (.iload 4, 2) := by decide +kernel
theorem dX8_differentKeys_50 : decode cX8_differentKeys 50 = .ok (.iaload, 1) := by decide +kernel
theorem dX8_differentKeys_51 : decode cX8_differentKeys 51 = .ok (.if_icmp .eq 11, 3) := by decide +kernel
theorem dX8_differentKeys_54 : decode cX8_differentKeys 54 = .ok (.lload_n 2, 1) := by decide +kernel
theorem dX8_differentKeys_55 : decode cX8_differentKeys 55 = .ok (.iload 4, 2) := by decide +kernel
theorem dX8_differentKeys_57 : decode cX8_differentKeys 57 = .ok (.invokestatic 53, 3) := by decide +kernel
theorem dX8_differentKeys_60 : decode cX8_differentKeys 60 = .ok (.lor, 1) := by decide +kernel
theorem dX8_differentKeys_61 : decode cX8_differentKeys 61 = .ok (.lstore_n 2, 1) := by decide +kernel
theorem dX8_differentKeys_62 : decode cX8_differentKeys 62 = .ok (.iinc 4 1, 3) := by decide +kernel
theorem dX8_differentKeys_65 : decode cX8_differentKeys 65 = .ok (.goto (-52), 3) := by decide +kernel
theorem dX8_differentKeys_68 : decode cX8_differentKeys 68 = .ok (.lload_n 2, 1) := by decide +kernel
theorem dX8_differentKeys_69 : decode cX8_differentKeys 69 = .ok (.lreturn, 1) := by decide +kernel
set_option maxRecDepth 20000 in
theorem ggX8_describeRoot_J7_fill_53178 : GoodIn wsX8_describeRoot wsJ7_fill_53178 := goodIn_r _ [6] (by decide +kernel) (by decide +kernel)
set_option maxRecDepth 20000 in
theorem gX8_describeRoot_J7_fill_53178 : GoodIn wsX8_describeRoot (va_wsS RX8 32 yJ7_fill_53178 wsJ7_fill_53178) := goodIn_app (goodIn_of _ (by decide +kernel)) ggX8_describeRoot_J7_fill_53178
theorem dX8_describeRoot_0 : decode cX8_describeRoot 0 = .ok (.aload_n 1, 1) := by decide +kernel
theorem dX8_describeRoot_1 : decode cX8_describeRoot 1 = .ok (.iconst 0, 1) := by decide +kernel
theorem dX8_describeRoot_2 : decode cX8_describeRoot 2 = .ok (.invokestatic 32, 3) := by decide +kernel
theorem dX8_describeRoot_5 : decode cX8_describeRoot 5 = .ok (.aload_n 1, 1) := by decide +kernel
theorem dX8_describeRoot_6 : decode cX8_describeRoot 6 = .ok (.iconst 0, 1) := by decide +kernel
theorem dX8_describeRoot_7 : decode cX8_describeRoot 7 = .ok (.iconst 1, 1) := by decide +kernel
theorem dX8_describeRoot_8 : decode cX8_describeRoot 8 = .ok (.iastore, 1) := by decide +kernel
theorem dX8_describeRoot_9 : decode cX8_describeRoot 9 = .ok (.aload_n 1, 1) := by decide +kernel
theorem dX8_describeRoot_10 : decode cX8_describeRoot 10 = .ok (.iconst 1, 1) := by decide +kernel
theorem dX8_describeRoot_11 : decode cX8_describeRoot 11 = .ok (.aload_n 0, 1) := by decide +kernel
theorem dX8_describeRoot_12 : decode cX8_describeRoot 12 = .ok (.getfield 22, 3) := by decide +kernel
theorem dX8_describeRoot_15 : decode cX8_describeRoot 15 = .ok (.iastore, 1) := by decide +kernel
theorem dX8_describeRoot_16 : decode cX8_describeRoot 16 = .ok (.aload_n 1, 1) := by decide +kernel
theorem dX8_describeRoot_17 : decode cX8_describeRoot 17 = .ok (.iconst 2, 1) := by decide +kernel
theorem dX8_describeRoot_18 : decode cX8_describeRoot 18 = .ok (.aload_n 0, 1) := by decide +kernel
theorem dX8_describeRoot_19 : decode cX8_describeRoot 19 = .ok (.getfield 29, 3) := by decide +kernel
theorem dX8_describeRoot_22 : decode cX8_describeRoot 22 = .ok (.iastore, 1) := by decide +kernel
theorem dX8_describeRoot_23 : decode cX8_describeRoot 23 = .ok (.return_, 1) := by decide +kernel
set_option maxRecDepth 20000 in
theorem ggX8_describeTable_J7_fill_53178 : GoodIn wsX8_describeTable wsJ7_fill_53178 := goodIn_r _ [10] (by decide +kernel) (by decide +kernel)
set_option maxRecDepth 20000 in
theorem gX8_describeTable_J7_fill_53178 : GoodIn wsX8_describeTable (va_wsS RX8 32 yJ7_fill_53178 wsJ7_fill_53178) := goodIn_app (goodIn_of _ (by decide +kernel)) ggX8_describeTable_J7_fill_53178
theorem dX8_describeTable_0 : decode cX8_describeTable 0 = .ok (.aload_n 1, 1) := by decide +kernel
theorem dX8_describeTable_1 : decode cX8_describeTable 1 = .ok (.iconst 0, 1) := by decide +kernel
theorem dX8_describeTable_2 : decode cX8_describeTable 2 = .ok (.invokestatic 32, 3) := by decide +kernel
theorem dX8_describeTable_5 : decode cX8_describeTable 5 = .ok (.aload_n 1, 1) := by decide +kernel
theorem dX8_describeTable_6 : decode cX8_describeTable 6 = .ok (.iconst 0, 1) := by decide +kernel
theorem dX8_describeTable_7 : decode cX8_describeTable 7 = .ok (.iconst 2, 1) := by decide +kernel
theorem dX8_describeTable_8 : decode cX8_describeTable 8 = .ok (.iastore, 1) := by decide +kernel
theorem dX8_describeTable_9 : decode cX8_describeTable 9 = .ok (.aload_n 1, 1) := by decide +kernel
theorem dX8_describeTable_10 : decode cX8_describeTable 10 = .ok (.iconst 1, 1) := by decide +kernel
theorem dX8_describeTable_11 : decode cX8_describeTable 11 = .ok (.aload_n 0, 1) := by decide +kernel
theorem dX8_describeTable_12 : decode cX8_describeTable 12 = .ok (.getfield 22, 3) := by decide +kernel
theorem dX8_describeTable_15 : decode cX8_describeTable 15 = .ok (.iastore, 1) := by decide +kernel
theorem dX8_describeTable_16 : decode cX8_describeTable 16 = .ok (.aload_n 0, 1) := by decide +kernel
theorem dX8_describeTable_17 : decode cX8_describeTable 17 = .ok (.getfield 9, 3) := by decide +kernel
theorem dX8_describeTable_20 : decode cX8_describeTable 20 = .ok (.iconst 0, 1) := by decide +kernel
theorem dX8_describeTable_21 : decode cX8_describeTable 21 = .ok (.aload_n 1, 1) := by decide +kernel
theorem dX8_describeTable_22 : decode cX8_describeTable 22 = .ok (.iconst 4, 1) := by decide +kernel
theorem dX8_describeTable_23 : decode cX8_describeTable 23 = .ok (.bipush 8, 2) := by decide +kernel
theorem dX8_describeTable_25 : decode cX8_describeTable 25 = .ok (.invokestatic 38, 3) := by decide +kernel
theorem dX8_describeTable_28 : decode cX8_describeTable 28 = .ok (.return_, 1) := by decide +kernel
set_option maxRecDepth 20000 in
theorem ggX8_describePage_J7_fill_53178 : GoodIn wsX8_describePage wsJ7_fill_53178 := goodIn_r _ [7] (by decide +kernel) (by decide +kernel)
set_option maxRecDepth 20000 in
theorem gX8_describePage_J7_fill_53178 : GoodIn wsX8_describePage (va_wsS RX8 32 yJ7_fill_53178 wsJ7_fill_53178) := goodIn_app (goodIn_of _ (by decide +kernel)) ggX8_describePage_J7_fill_53178
set_option maxRecDepth 20000 in
theorem ggX8_describePage_X8_bitsOf : GoodIn wsX8_describePage wsX8_bitsOf := goodIn_r _ [12, 2, 13, 14, 11, 15, 16, 17, 18, 19, 20, 21, 22, 23, 24] (by decide +kernel) (by decide +kernel)
set_option maxRecDepth 20000 in
theorem gX8_describePage_X8_bitsOf : GoodIn wsX8_describePage (wsV RX8 80 RX8 yX8_bitsOf wsX8_bitsOf) := goodIn_app (goodIn_of _ (by decide +kernel)) ggX8_describePage_X8_bitsOf
set_option maxRecDepth 20000 in
theorem ggX8_describePage_X8_keyOf : GoodIn wsX8_describePage wsX8_keyOf := goodIn_r _ [15] (by decide +kernel) (by decide +kernel)
set_option maxRecDepth 20000 in
theorem gX8_describePage_X8_keyOf : GoodIn wsX8_describePage (va_wsS RX8 76 yX8_keyOf wsX8_keyOf) := goodIn_app (goodIn_of _ (by decide +kernel)) ggX8_describePage_X8_keyOf
set_option maxRecDepth 20000 in
theorem ggX8_describePage_X9_isIn : GoodIn wsX8_describePage wsX9_isIn := goodIn_r _ [18] (by decide +kernel) (by decide +kernel)
set_option maxRecDepth 20000 in
theorem gX8_describePage_X9_isIn_n49 : GoodIn wsX8_describePage (wsX9_isIn) := ggX8_describePage_X9_isIn
theorem dX8_describePage_0 : decode cX8_describePage 0 = .ok (.aload_n 2, 1) := by decide +kernel
theorem dX8_describePage_1 : decode cX8_describePage 1 = .ok (.iconst 0, 1) := by decide +kernel
theorem dX8_describePage_2 : decode cX8_describePage 2 = .ok (.invokestatic 32, 3) := by decide +kernel
theorem dX8_describePage_5 : decode cX8_describePage 5 = .ok (.aload_n 2, 1) := by decide +kernel
theorem dX8_describePage_6 : decode cX8_describePage 6 = .ok (.iconst 0, 1) := by decide +kernel
theorem dX8_describePage_7 : decode cX8_describePage 7 = .ok (.iconst 3, 1) := by decide +kernel
theorem dX8_describePage_8 : decode cX8_describePage 8 = .ok (.iastore, 1) := by decide +kernel
theorem dX8_describePage_9 : decode cX8_describePage 9 = .ok (.aload_n 2, 1) := by decide +kernel
theorem dX8_describePage_10 : decode cX8_describePage 10 = .ok (.iconst 1, 1) := by decide +kernel
theorem dX8_describePage_11 : decode cX8_describePage 11 = .ok (.aload_n 0, 1) := by decide +kernel
theorem dX8_describePage_12 : decode cX8_describePage 12 = .ok (.getfield 22, 3) := by decide +kernel
theorem dX8_describePage_15 : decode cX8_describePage 15 = .ok (.iastore, 1) := by decide +kernel
theorem dX8_describePage_16 : decode cX8_describePage 16 = .ok (.aload_n 2, 1) := by decide +kernel
theorem dX8_describePage_17 : decode cX8_describePage 17 = .ok (.iconst 2, 1) := by decide +kernel
theorem dX8_describePage_18 : decode cX8_describePage 18 = .ok (.iload_n 1, 1) := by decide +kernel
theorem dX8_describePage_19 : decode cX8_describePage 19 = .ok (.iastore, 1) := by decide +kernel
theorem dX8_describePage_20 : decode cX8_describePage 20 = .ok (.aload_n 2, 1) := by decide +kernel
theorem dX8_describePage_21 : decode cX8_describePage 21 = .ok (.iconst 3, 1) := by decide +kernel
theorem dX8_describePage_22 : decode cX8_describePage 22 = .ok (.aload_n 0, 1) := by decide +kernel
theorem dX8_describePage_23 : decode cX8_describePage 23 = .ok (.iload_n 1, 1) := by decide +kernel
theorem dX8_describePage_24 : decode cX8_describePage 24 = .ok (.invokevirtual 80, 3) := by decide +kernel
theorem dX8_describePage_27 : decode cX8_describePage 27 = .ok (.iastore, 1) := by decide +kernel
theorem dX8_describePage_28 : decode cX8_describePage 28 = .ok (.iconst 0, 1) := by decide +kernel
theorem dX8_describePage_29 : decode cX8_describePage 29 = .ok (.istore_n 3, 1) := by decide +kernel
theorem dX8_describePage_30 : decode cX8_describePage 30 = .ok (.iload_n 3, 1) := by decide +kernel
theorem dX8_describePage_31 : decode cX8_describePage 31 = .ok (.bipush 8, 2) := by decide +kernel
theorem dX8_describePage_33 : decode cX8_describePage 33 = .ok (.if_icmp .ge 40, 3) := by decide +kernel
theorem dX8_describePage_36 : decode cX8_describePage 36 = .ok (.iload_n 1, 1) := by decide +kernel
theorem dX8_describePage_37 : decode cX8_describePage 37 = .ok (.iload_n 3, 1) := by decide +kernel
theorem dX8_describePage_38 : decode cX8_describePage 38 = .ok (.invokestatic 76, 3) := by decide +kernel
theorem dX8_describePage_41 : decode cX8_describePage 41 = .ok (.istore 4, 2) := by decide +kernel
theorem dX8_describePage_43 : decode cX8_describePage 43 = .ok (.aload_n 0, 1) := by decide +kernel
theorem dX8_describePage_44 : decode cX8_describePage 44 = .ok (.getfield 18, 3) := by decide +kernel
theorem dX8_describePage_47 : decode cX8_describePage 47 = .ok (.iload 4, 2) := by decide +kernel
theorem dX8_describePage_49 : decode cX8_describePage 49 = .ok (.invokestatic 49, 3) := by decide +kernel
theorem dX8_describePage_52 : decode cX8_describePage 52 = .ok (.ifCond .eq 15, 3) := by decide +kernel
theorem dX8_describePage_55 : decode cX8_describePage 55 = .ok (.aload_n 2, 1) := by decide +kernel
theorem dX8_describePage_56 : decode cX8_describePage 56 = .ok (.iconst 4, 1) := by decide +kernel
theorem dX8_describePage_57 : decode cX8_describePage 57 = .ok (.iload_n 3, 1) := by decide +kernel
theorem dX8_describePage_58 : decode cX8_describePage 58 = .ok (.iadd, 1) := by decide +kernel
theorem dX8_describePage_59 : decode cX8_describePage 59 = .ok (.aload_n 0, 1) := by decide +kernel
theorem dX8_describePage_60 : decode cX8_describePage 60 = .ok (.getfield 15, 3) := by decide +kernel
theorem dX8_describePage_63 : decode cX8_describePage 63 = .ok (.iload 4, 2) := by decide +kernel
theorem dX8_describePage_65 : decode cX8_describePage 65 = .ok (.iaload, 1) := by decide +kernel
theorem dX8_describePage_66 : decode cX8_describePage 66 = .ok (.iastore, 1) := by decide +kernel
theorem dX8_describePage_67 : decode cX8_describePage 67 = .ok (.iinc 3 1, 3) := by decide +kernel
theorem dX8_describePage_70 : decode cX8_describePage 70 = .ok (.goto (-40), 3) := by decide +kernel
theorem dX8_describePage_73 : decode cX8_describePage 73 = .ok (.return_, 1) := by decide +kernel
set_option maxRecDepth 20000 in
theorem ggX8_isWrong_X1_isValidForm : GoodIn wsX8_isWrong wsX1_isValidForm := goodIn_r _ [9, 10, 11, 12, 13, 8, 14, 15, 16, 17, 18, 41, 42] (by decide +kernel) (by decide +kernel)
set_option maxRecDepth 20000 in
theorem gX8_isWrong_X1_isValidForm : GoodIn wsX8_isWrong (wsV RX8 84 RX1 yX1_isValidForm wsX1_isValidForm) := goodIn_app (goodIn_of _ (by decide +kernel)) ggX8_isWrong_X1_isValidForm
set_option maxRecDepth 20000 in
theorem ggX8_isWrong_X8_isOurRoot : GoodIn wsX8_isWrong wsX8_isOurRoot := goodIn_r _ [23, 24, 3, 43, 44, 45, 46, 47, 48] (by decide +kernel) (by decide +kernel)
set_option maxRecDepth 20000 in
theorem gX8_isWrong_X8_isOurRoot : GoodIn wsX8_isWrong (wsV RX8 88 RX8 yX8_isOurRoot wsX8_isOurRoot) := goodIn_app (goodIn_of _ (by decide +kernel)) ggX8_isWrong_X8_isOurRoot
set_option maxRecDepth 20000 in
theorem ggX8_isWrong_X8_isOurTable : GoodIn wsX8_isWrong wsX8_isOurTable := goodIn_r _ [28, 4, 43, 44, 45, 46, 47, 48] (by decide +kernel) (by decide +kernel)
set_option maxRecDepth 20000 in
theorem gX8_isWrong_X8_isOurTable : GoodIn wsX8_isWrong (wsV RX8 92 RX8 yX8_isOurTable wsX8_isOurTable) := goodIn_app (goodIn_of _ (by decide +kernel)) ggX8_isWrong_X8_isOurTable
set_option maxRecDepth 20000 in
theorem ggX8_isWrong_X8_isOurPage : GoodIn wsX8_isWrong wsX8_isOurPage := goodIn_r _ [32, 33, 34, 35, 36, 22, 37, 38, 39, 40, 43, 44, 45, 46, 47, 48] (by decide +kernel) (by decide +kernel)
set_option maxRecDepth 20000 in
theorem gX8_isWrong_X8_isOurPage : GoodIn wsX8_isWrong (wsV RX8 95 RX8 yX8_isOurPage wsX8_isOurPage) := goodIn_app (goodIn_of _ (by decide +kernel)) ggX8_isWrong_X8_isOurPage
theorem dX8_isWrong_0 : decode cX8_isWrong 0 = .ok (.aload_n 1, 1) := by decide +kernel
theorem dX8_isWrong_1 : decode cX8_isWrong 1 = .ok (.getfield 63, 3) := by decide +kernel
theorem dX8_isWrong_4 : decode cX8_isWrong 4 = .ok (.iload_n 2, 1) := by decide +kernel
theorem dX8_isWrong_5 : decode cX8_isWrong 5 = .ok (.aaload, 1) := by decide +kernel
theorem dX8_isWrong_6 : decode cX8_isWrong 6 = .ok (.astore_n 3, 1) := by decide +kernel
theorem dX8_isWrong_7 : decode cX8_isWrong 7 = .ok (.iload_n 2, 1) := by decide +kernel
theorem dX8_isWrong_8 : decode cX8_isWrong 8 = .ok (.aload_n 0, 1) := by decide +kernel
theorem dX8_isWrong_9 : decode cX8_isWrong 9 = .ok (.getfield 26, 3) := by decide +kernel
theorem dX8_isWrong_12 : decode cX8_isWrong 12 = .ok (.if_icmp .ne 26, 3) := by decide +kernel
theorem dX8_isWrong_15 : decode cX8_isWrong 15 = .ok (.aload_n 1, 1) := by decide +kernel
theorem dX8_isWrong_16 : decode cX8_isWrong 16 = .ok (.iload_n 2, 1) := by decide +kernel
theorem dX8_isWrong_17 : decode cX8_isWrong 17 = .ok (.iconst 1, 1) := by decide +kernel
theorem dX8_isWrong_18 : decode cX8_isWrong 18 = .ok (.invokevirtual 84, 3) := by decide +kernel
theorem dX8_isWrong_21 : decode cX8_isWrong 21 = .ok (.ifCond .eq 11, 3) := by decide +kernel
theorem dX8_isWrong_24 : decode cX8_isWrong 24 = .ok (.aload_n 0, 1) := by decide +kernel
theorem dX8_isWrong_25 : decode cX8_isWrong 25 = .ok (.aload_n 3, 1) := by decide +kernel
theorem dX8_isWrong_26 : decode cX8_isWrong 26 = .ok (.invokevirtual 88, 3) := by decide +kernel
theorem dX8_isWrong_29 : decode cX8_isWrong 29 = .ok (.ifCond .ne 7, 3) := by decide +kernel
theorem dX8_isWrong_32 : decode cX8_isWrong 32 = .ok (.iconst 1, 1) := by decide +kernel
theorem dX8_isWrong_33 : decode cX8_isWrong 33 = .ok (.goto 4, 3) := by decide +kernel
theorem dX8_isWrong_36 : decode cX8_isWrong 36 = .ok (.iconst 0, 1) := by decide +kernel
theorem dX8_isWrong_37 : decode cX8_isWrong 37 = .ok (.ireturn, 1) := by decide +kernel
theorem dX8_isWrong_38 : decode cX8_isWrong 38 = .ok (.iload_n 2, 1) := by decide +kernel
theorem dX8_isWrong_39 : decode cX8_isWrong 39 = .ok (.aload_n 0, 1) := by decide +kernel
theorem dX8_isWrong_40 : decode cX8_isWrong 40 = .ok (.getfield 29, 3) := by decide +kernel
theorem dX8_isWrong_43 : decode cX8_isWrong 43 = .ok (.if_icmp .ne 26, 3) := by decide +kernel
theorem dX8_isWrong_46 : decode cX8_isWrong 46 = .ok (.aload_n 1, 1) := by decide +kernel
theorem dX8_isWrong_47 : decode cX8_isWrong 47 = .ok (.iload_n 2, 1) := by decide +kernel
theorem dX8_isWrong_48 : decode cX8_isWrong 48 = .ok (.iconst 2, 1) := by decide +kernel
theorem dX8_isWrong_49 : decode cX8_isWrong 49 = .ok (.invokevirtual 84, 3) := by decide +kernel
theorem dX8_isWrong_52 : decode cX8_isWrong 52 = .ok (.ifCond .eq 11, 3) := by decide +kernel
theorem dX8_isWrong_55 : decode cX8_isWrong 55 = .ok (.aload_n 0, 1) := by decide +kernel
theorem dX8_isWrong_56 : decode cX8_isWrong 56 = .ok (.aload_n 3, 1) := by decide +kernel
theorem dX8_isWrong_57 : decode cX8_isWrong 57 = .ok (.invokevirtual 92, 3) := by decide +kernel
theorem dX8_isWrong_60 : decode cX8_isWrong 60 = .ok (.ifCond .ne 7, 3) := by decide +kernel
theorem dX8_isWrong_63 : decode cX8_isWrong 63 = .ok (.iconst 1, 1) := by decide +kernel
theorem dX8_isWrong_64 : decode cX8_isWrong 64 = .ok (.goto 4, 3) := by decide +kernel
theorem dX8_isWrong_67 : decode cX8_isWrong 67 = .ok (.iconst 0, 1) := by decide +kernel
theorem dX8_isWrong_68 : decode cX8_isWrong 68 = .ok (.ireturn, 1) := by decide +kernel
theorem dX8_isWrong_69 : decode cX8_isWrong 69 = .ok (.iconst 0, 1) := by decide +kernel
theorem dX8_isWrong_70 : decode cX8_isWrong 70 = .ok (.istore 4, 2) := by decide +kernel
theorem dX8_isWrong_72 : decode cX8_isWrong 72 = .ok (.iload 4, 2) := by decide +kernel
theorem dX8_isWrong_74 : decode cX8_isWrong 74 = .ok (.bipush 8, 2) := by decide +kernel
theorem dX8_isWrong_76 : decode cX8_isWrong 76 = .ok (.if_icmp .ge 45, 3) := by decide +kernel
theorem dX8_isWrong_79 : decode cX8_isWrong 79 = .ok (.iload_n 2, 1) := by decide +kernel
theorem dX8_isWrong_80 : decode cX8_isWrong 80 = .ok (.aload_n 0, 1) := by decide +kernel
theorem dX8_isWrong_81 : decode cX8_isWrong 81 = .ok (.getfield 9, 3) := by decide +kernel
theorem dX8_isWrong_84 : decode cX8_isWrong 84 = .ok (.iload 4, 2) := by decide +kernel
theorem dX8_isWrong_86 : decode cX8_isWrong 86 = .ok (.iaload, 1) := by decide +kernel
theorem dX8_isWrong_87 : decode cX8_isWrong 87 = .ok (.if_icmp .ne 28, 3) := by decide +kernel
theorem dX8_isWrong_90 : decode cX8_isWrong 90 = .ok (.aload_n 1, 1) := by decide +kernel
theorem dX8_isWrong_91 : decode cX8_isWrong 91 = .ok (.iload_n 2, 1) := by decide +kernel
theorem dX8_isWrong_92 : decode cX8_isWrong 92 = .ok (.iconst 3, 1) := by decide +kernel
theorem dX8_isWrong_93 : decode cX8_isWrong 93 = .ok (.invokevirtual 84, 3) := by decide +kernel
theorem dX8_isWrong_96 : decode cX8_isWrong 96 = .ok (.ifCond .eq 13, 3) := by decide +kernel
theorem dX8_isWrong_99 : decode cX8_isWrong 99 = .ok (.aload_n 0, 1) := by decide +kernel
theorem dX8_isWrong_100 : decode cX8_isWrong 100 = .ok (.aload_n 3, 1) := by decide +kernel
theorem dX8_isWrong_101 : decode cX8_isWrong 101 = .ok (.iload 4, 2) := by decide +kernel
theorem dX8_isWrong_103 : decode cX8_isWrong 103 = .ok (.invokevirtual 95, 3) := by decide +kernel
theorem dX8_isWrong_106 : decode cX8_isWrong 106 = .ok (.ifCond .ne 7, 3) := by decide +kernel
theorem dX8_isWrong_109 : decode cX8_isWrong 109 = .ok (.iconst 1, 1) := by decide +kernel
theorem dX8_isWrong_110 : decode cX8_isWrong 110 = .ok (.goto 4, 3) := by decide +kernel
theorem dX8_isWrong_113 : decode cX8_isWrong 113 = .ok (.iconst 0, 1) := by decide +kernel
theorem dX8_isWrong_114 : decode cX8_isWrong 114 = .ok (.ireturn, 1) := by decide +kernel
theorem dX8_isWrong_115 : decode cX8_isWrong 115 = .ok (.iinc 4 1, 3) := by decide +kernel
theorem dX8_isWrong_118 : decode cX8_isWrong 118 = .ok (.goto (-46), 3) := by decide +kernel
theorem dX8_isWrong_121 : decode cX8_isWrong 121 = .ok (.iconst 0, 1) := by decide +kernel
theorem dX8_isWrong_122 : decode cX8_isWrong 122 = .ok (.ireturn, 1) := by decide +kernel
theorem dX8_isOurRoot_0 : decode cX8_isOurRoot 0 = .ok (.aload_n 1, 1) := by decide +kernel
theorem dX8_isOurRoot_1 : decode cX8_isOurRoot 1 = .ok (.iconst 1, 1) := by decide +kernel
theorem dX8_isOurRoot_2 : decode cX8_isOurRoot 2 = .ok (.iaload, 1) := by decide +kernel
theorem dX8_isOurRoot_3 : decode cX8_isOurRoot 3 = .ok (.aload_n 0, 1) := by decide +kernel
theorem dX8_isOurRoot_4 : decode cX8_isOurRoot 4 = .ok (.getfield 22, 3) := by decide +kernel
theorem dX8_isOurRoot_7 : decode cX8_isOurRoot 7 = .ok (.if_icmp .ne 17, 3) := by decide +kernel
theorem dX8_isOurRoot_10 : decode cX8_isOurRoot 10 = .ok (.aload_n 1, 1) := by decide +kernel
theorem dX8_isOurRoot_11 : decode cX8_isOurRoot 11 = .ok (.iconst 2, 1) := by decide +kernel
theorem dX8_isOurRoot_12 : decode cX8_isOurRoot 12 = .ok (.iaload, 1) := by decide +kernel
theorem dX8_isOurRoot_13 : decode cX8_isOurRoot 13 = .ok (.aload_n 0, 1) := by decide +kernel
theorem dX8_isOurRoot_14 : decode cX8_isOurRoot 14 = .ok (.getfield 29, 3) := by decide +kernel
theorem dX8_isOurRoot_17 : decode cX8_isOurRoot 17 = .ok (.if_icmp .ne 7, 3) := by decide +kernel
theorem dX8_isOurRoot_20 : decode cX8_isOurRoot 20 = .ok (.iconst 1, 1) := by decide +kernel
theorem dX8_isOurRoot_21 : decode cX8_isOurRoot 21 = .ok (.goto 4, 3) := by decide +kernel
theorem dX8_isOurRoot_24 : decode cX8_isOurRoot 24 = .ok (.iconst 0, 1) := by decide +kernel
theorem dX8_isOurRoot_25 : decode cX8_isOurRoot 25 = .ok (.ireturn, 1) := by decide +kernel
theorem dX8_isOurTable_0 : decode cX8_isOurTable 0 = .ok (.iconst 0, 1) := by decide +kernel
theorem dX8_isOurTable_1 : decode cX8_isOurTable 1 = .ok (.istore_n 2, 1) := by decide +kernel
theorem dX8_isOurTable_2 : decode cX8_isOurTable 2 = .ok (.iload_n 2, 1) := by decide +kernel
theorem dX8_isOurTable_3 : decode cX8_isOurTable 3 = .ok (.bipush 8, 2) := by decide +kernel
theorem dX8_isOurTable_5 : decode cX8_isOurTable 5 = .ok (.if_icmp .ge 25, 3) := by decide +kernel
theorem dX8_isOurTable_8 : decode cX8_isOurTable 8 = .ok (.aload_n 1, 1) := by decide +kernel
theorem dX8_isOurTable_9 : decode cX8_isOurTable 9 = .ok (.iconst 4, 1) := by decide +kernel
theorem dX8_isOurTable_10 : decode cX8_isOurTable 10 = .ok (.iload_n 2, 1) := by decide +kernel
theorem dX8_isOurTable_11 : decode cX8_isOurTable 11 = .ok (.iadd, 1) := by decide +kernel
theorem dX8_isOurTable_12 : decode cX8_isOurTable 12 = .ok (.iaload, 1) := by decide +kernel
theorem dX8_isOurTable_13 : decode cX8_isOurTable 13 = .ok (.aload_n 0, 1) := by decide +kernel
theorem dX8_isOurTable_14 : decode cX8_isOurTable 14 = .ok (.getfield 9, 3) := by decide +kernel
theorem dX8_isOurTable_17 : decode cX8_isOurTable 17 = .ok (.iload_n 2, 1) := by decide +kernel
theorem dX8_isOurTable_18 : decode cX8_isOurTable 18 = .ok (.iaload, 1) := by decide +kernel
theorem dX8_isOurTable_19 : decode cX8_isOurTable 19 = .ok (.if_icmp .eq 5, 3) := by decide +kernel
theorem dX8_isOurTable_22 : decode cX8_isOurTable 22 = .ok (.iconst 0, 1) := by decide +kernel
theorem dX8_isOurTable_23 : decode cX8_isOurTable 23 = .ok (.ireturn, 1) := by decide +kernel
theorem dX8_isOurTable_24 : decode cX8_isOurTable 24 = .ok (.iinc 2 1, 3) := by decide +kernel
theorem dX8_isOurTable_27 : decode cX8_isOurTable 27 = .ok (.goto (-25), 3) := by decide +kernel
theorem dX8_isOurTable_30 : decode cX8_isOurTable 30 = .ok (.iconst 1, 1) := by decide +kernel
theorem dX8_isOurTable_31 : decode cX8_isOurTable 31 = .ok (.ireturn, 1) := by decide +kernel
set_option maxRecDepth 20000 in
theorem ggX8_isOurPage_X8_keyOf : GoodIn wsX8_isOurPage wsX8_keyOf := goodIn_r _ [6] (by decide +kernel) (by decide +kernel)
set_option maxRecDepth 20000 in
theorem gX8_isOurPage_X8_keyOf : GoodIn wsX8_isOurPage (va_wsS RX8 76 yX8_keyOf wsX8_keyOf) := goodIn_app (goodIn_of _ (by decide +kernel)) ggX8_isOurPage_X8_keyOf
set_option maxRecDepth 20000 in
theorem ggX8_isOurPage_X9_isIn : GoodIn wsX8_isOurPage wsX9_isIn := goodIn_r _ [9] (by decide +kernel) (by decide +kernel)
set_option maxRecDepth 20000 in
theorem gX8_isOurPage_X9_isIn_n49 : GoodIn wsX8_isOurPage (wsX9_isIn) := ggX8_isOurPage_X9_isIn
theorem dX8_isOurPage_0 : decode cX8_isOurPage 0 = .ok (.iconst 0, 1) := by decide +kernel
theorem dX8_isOurPage_1 : decode cX8_isOurPage 1 = .ok (.istore_n 3, 1) := by decide +kernel
theorem dX8_isOurPage_2 : decode cX8_isOurPage 2 = .ok (.iload_n 3, 1) := by decide +kernel
theorem dX8_isOurPage_3 : decode cX8_isOurPage 3 = .ok (.bipush 8, 2) := by decide +kernel
theorem dX8_isOurPage_5 : decode cX8_isOurPage 5 = .ok (.if_icmp .ge 67, 3) := by decide +kernel
theorem dX8_isOurPage_8 : decode cX8_isOurPage 8 = .ok (.iload_n 2, 1) := by decide +kernel
theorem dX8_isOurPage_9 : decode cX8_isOurPage 9 = .ok (.iload_n 3, 1) := by decide +kernel
theorem dX8_isOurPage_10 : decode cX8_isOurPage 10 = .ok (.invokestatic 76, 3) := by decide +kernel
theorem dX8_isOurPage_13 : decode cX8_isOurPage 13 = .ok (.istore 4, 2) := by decide +kernel
theorem dX8_isOurPage_15 : decode cX8_isOurPage 15 = .ok (.aload_n 1, 1) := by decide +kernel
theorem dX8_isOurPage_16 : decode cX8_isOurPage 16 = .ok (.iconst 3, 1) := by decide +kernel
theorem dX8_isOurPage_17 : decode cX8_isOurPage 17 = .ok (.iaload, 1) := by decide +kernel
theorem dX8_isOurPage_18 : decode cX8_isOurPage 18 = .ok (.i2l, 1) := by decide +kernel
theorem dX8_isOurPage_19 : decode cX8_isOurPage 19 = .ok (.iload_n 3, 1) := by decide +kernel
theorem dX8_isOurPage_20 : decode cX8_isOurPage 20 = .ok (.invokestatic 49, 3) := by decide +kernel
theorem dX8_isOurPage_23 : decode cX8_isOurPage 23 = .ok (.aload_n 0, 1) := by decide +kernel
theorem dX8_isOurPage_24 : decode cX8_isOurPage 24 = .ok (.getfield 18, 3) := by decide +kernel
theorem dX8_isOurPage_27 : decode cX8_isOurPage 27 = .ok (.iload 4, 2) := by decide +kernel
theorem dX8_isOurPage_29 : decode cX8_isOurPage 29 = .ok (.invokestatic 49, 3) := by decide +kernel
theorem dX8_isOurPage_32 : decode cX8_isOurPage 32 = .ok (.if_icmp .eq 5, 3) := by decide +kernel
theorem dX8_isOurPage_35 : decode cX8_isOurPage 35 = .ok (.iconst 0, 1) := by decide +kernel
theorem dX8_isOurPage_36 : decode cX8_isOurPage 36 = .ok (.ireturn, 1) := by decide +kernel
theorem dX8_isOurPage_37 : decode cX8_isOurPage 37 = .ok (.aload_n 0, 1) := by decide +kernel
theorem dX8_isOurPage_38 : decode cX8_isOurPage 38 = .ok (.getfield 18, 3) := by decide +kernel
theorem dX8_isOurPage_41 : decode cX8_isOurPage 41 = .ok (.iload 4, 2) := by decide +kernel
theorem dX8_isOurPage_43 : decode cX8_isOurPage 43 = .ok (.invokestatic 49, 3) := by decide +kernel
theorem dX8_isOurPage_46 : decode cX8_isOurPage 46 = .ok (.ifCond .eq 20, 3) := by decide +kernel
theorem dX8_isOurPage_49 : decode cX8_isOurPage 49 = .ok (.aload_n 1, 1) := by decide +kernel
theorem dX8_isOurPage_50 : decode cX8_isOurPage 50 = .ok (.iconst 4, 1) := by decide +kernel
theorem dX8_isOurPage_51 : decode cX8_isOurPage 51 = .ok (.iload_n 3, 1) := by decide +kernel
theorem dX8_isOurPage_52 : decode cX8_isOurPage 52 = .ok (.iadd, 1) := by decide +kernel
theorem dX8_isOurPage_53 : decode cX8_isOurPage 53 = .ok (.iaload, 1) := by decide +kernel
theorem dX8_isOurPage_54 : decode cX8_isOurPage 54 = .ok (.aload_n 0, 1) := by decide +kernel
theorem dX8_isOurPage_55 : decode cX8_isOurPage 55 = .ok (.getfield 15, 3) := by decide +kernel
theorem dX8_isOurPage_58 : decode cX8_isOurPage 58 = .ok (.iload 4, 2) := by decide +kernel
theorem dX8_isOurPage_60 : decode cX8_isOurPage 60 = .ok (.iaload, 1) := by decide +kernel
theorem dX8_isOurPage_61 : decode cX8_isOurPage 61 = .ok (.if_icmp .eq 5, 3) := by decide +kernel
theorem dX8_isOurPage_64 : decode cX8_isOurPage 64 = .ok (.iconst 0, 1) := by decide +kernel
theorem dX8_isOurPage_65 : decode cX8_isOurPage 65 = .ok (.ireturn, 1) := by decide +kernel
theorem dX8_isOurPage_66 : decode cX8_isOurPage 66 = .ok (.iinc 3 1, 3) := by decide +kernel
theorem dX8_isOurPage_69 : decode cX8_isOurPage 69 = .ok (.goto (-67), 3) := by decide +kernel
theorem dX8_isOurPage_72 : decode cX8_isOurPage 72 = .ok (.aload_n 1, 1) := by decide +kernel
theorem dX8_isOurPage_73 : decode cX8_isOurPage 73 = .ok (.iconst 2, 1) := by decide +kernel
theorem dX8_isOurPage_74 : decode cX8_isOurPage 74 = .ok (.iaload, 1) := by decide +kernel
theorem dX8_isOurPage_75 : decode cX8_isOurPage 75 = .ok (.iload_n 2, 1) := by decide +kernel
theorem dX8_isOurPage_76 : decode cX8_isOurPage 76 = .ok (.if_icmp .ne 7, 3) := by decide +kernel
theorem dX8_isOurPage_79 : decode cX8_isOurPage 79 = .ok (.iconst 1, 1) := by decide +kernel
theorem dX8_isOurPage_80 : decode cX8_isOurPage 80 = .ok (.goto 4, 3) := by decide +kernel
theorem dX8_isOurPage_83 : decode cX8_isOurPage 83 = .ok (.iconst 0, 1) := by decide +kernel
theorem dX8_isOurPage_84 : decode cX8_isOurPage 84 = .ok (.ireturn, 1) := by decide +kernel
set_option maxRecDepth 20000 in
theorem ggX9_init_X1_init : GoodIn wsX9_init wsX1_init := goodIn_r _ [50, 51, 2, 3, 52, 23, 53, 54, 157, 158] (by decide +kernel) (by decide +kernel)
set_option maxRecDepth 20000 in
theorem gX9_init_X1_init_n9 : GoodIn wsX9_init (wsX1_init) := ggX9_init_X1_init
set_option maxRecDepth 20000 in
theorem ggX9_init_X8_init : GoodIn wsX9_init wsX8_init := goodIn_r _ [56, 57, 2, 3, 23, 58, 59, 60, 61, 62, 63, 175, 176, 177, 178, 179, 180] (by decide +kernel) (by decide +kernel)
set_option maxRecDepth 20000 in
theorem gX9_init_X8_init_n18 : GoodIn wsX9_init (wsX8_init) := ggX9_init_X8_init
set_option maxRecDepth 20000 in
theorem ggX9_init_X0_init : GoodIn wsX9_init wsX0_init := goodIn_r _ [65, 66, 2, 3, 23, 67, 68, 69, 181, 182, 183] (by decide +kernel) (by decide +kernel)
set_option maxRecDepth 20000 in
theorem gX9_init_X0_init_n28 : GoodIn wsX9_init (wsX0_init) := ggX9_init_X0_init
set_option maxRecDepth 20000 in
theorem ggX9_init_X5_init : GoodIn wsX9_init wsX5_init := goodIn_r _ [71, 72, 2, 3, 73, 74, 75, 184, 185, 186] (by decide +kernel) (by decide +kernel)
set_option maxRecDepth 20000 in
theorem gX9_init_X5_init_n35 : GoodIn wsX9_init (wsX5_init) := ggX9_init_X5_init
set_option maxRecDepth 20000 in
theorem ggX9_init_X2_init : GoodIn wsX9_init wsX2_init := goodIn_r _ [77, 78, 2, 3, 79, 80, 81, 23, 82, 83, 84, 27, 85, 86, 187, 188, 189, 190, 191, 192, 193] (by decide +kernel) (by decide +kernel)
set_option maxRecDepth 20000 in
theorem gX9_init_X2_init_n64 : GoodIn wsX9_init (wsX2_init) := ggX9_init_X2_init
set_option maxRecDepth 20000 in
theorem ggX9_init_X4_init : GoodIn wsX9_init wsX4_init := goodIn_r _ [88, 89, 2, 3, 79, 90, 91, 92, 194, 195, 196] (by decide +kernel) (by decide +kernel)
set_option maxRecDepth 20000 in
theorem gX9_init_X4_init_n71 : GoodIn wsX9_init (wsX4_init) := ggX9_init_X4_init
set_option maxRecDepth 20000 in
theorem ggX9_init_X3_init : GoodIn wsX9_init wsX3_init := goodIn_r _ [94, 95, 2, 3, 96, 23, 97, 98, 197, 198] (by decide +kernel) (by decide +kernel)
set_option maxRecDepth 20000 in
theorem gX9_init_X3_init_n78 : GoodIn wsX9_init (wsX3_init) := ggX9_init_X3_init
set_option maxRecDepth 20000 in
theorem ggX9_init_X6_init : GoodIn wsX9_init wsX6_init := goodIn_r _ [100, 101, 2, 3, 23, 102, 103, 104, 105, 199, 200, 201, 202] (by decide +kernel) (by decide +kernel)
set_option maxRecDepth 20000 in
theorem gX9_init_X6_init_n85 : GoodIn wsX9_init (wsX6_init) := ggX9_init_X6_init
set_option maxRecDepth 20000 in
theorem ggX9_init_X7_init : GoodIn wsX9_init wsX7_init := goodIn_r _ [108, 109, 2, 3, 110, 14, 15, 111, 112, 113, 114, 64, 65, 66, 23, 67, 68, 69, 181, 182, 183, 203, 204, 205, 206] (by decide +kernel) (by decide +kernel)
set_option maxRecDepth 20000 in
theorem gX9_init_X7_init : GoodIn wsX9_init (wsX7_init) := ggX9_init_X7_init
set_option maxRecDepth 20000 in
theorem ggX9_init_X9_makeNewFile : GoodIn wsX9_init wsX9_makeNewFile := goodIn_r _ [119, 7, 11, 120, 121, 122, 46, 123, 124, 125, 6, 126, 53, 127, 128, 129, 130, 131, 132, 133, 10, 134, 58, 60, 61, 62, 63, 135, 136, 137, 138, 139, 140, 141, 142, 143, 144, 145, 146, 147, 54, 148, 149, 150, 151, 152, 153, 154, 155, 156, 159, 160, 161, 162, 163, 164, 165, 166, 167, 168, 169, 170, 171, 172, 173, 174, 157, 158, 175, 176, 177, 178, 179, 180] (by decide +kernel) (by decide +kernel)
set_option maxRecDepth 20000 in
theorem gX9_init_X9_makeNewFile : GoodIn wsX9_init (wsV RX9 98 RX9 yX9_makeNewFile wsX9_makeNewFile) := goodIn_app (goodIn_of _ (by decide +kernel)) ggX9_init_X9_makeNewFile
theorem dX9_init_0 : decode cX9_init 0 = .ok (.aload_n 0, 1) := by decide +kernel
theorem dX9_init_1 : decode cX9_init 1 = .ok (.invokespecial 1, 3) := by decide +kernel
theorem dX9_init_4 : decode cX9_init 4 = .ok (.aload_n 0, 1) := by decide +kernel
theorem dX9_init_5 : decode cX9_init 5 = .ok (.new 7, 3) := by decide +kernel
theorem dX9_init_8 : decode cX9_init 8 = .ok (.dup, 1) := by decide +kernel
theorem dX9_init_9 : decode cX9_init 9 = .ok (.invokespecial 9, 3) := by decide +kernel
theorem dX9_init_12 : decode cX9_init 12 = .ok (.putfield 10, 3) := by decide +kernel
theorem dX9_init_15 : decode cX9_init 15 = .ok (.aload_n 0, 1) := by decide +kernel
theorem dX9_init_16 : decode cX9_init 16 = .ok (.new 16, 3) := by decide +kernel
theorem dX9_init_19 : decode cX9_init 19 = .ok (.dup, 1) := by decide +kernel
theorem dX9_init_20 : decode cX9_init 20 = .ok (.invokespecial 18, 3) := by decide +kernel
theorem dX9_init_23 : decode cX9_init 23 = .ok (.putfield 19, 3) := by decide +kernel
theorem dX9_init_26 : decode cX9_init 26 = .ok (.aload_n 0, 1) := by decide +kernel
theorem dX9_init_27 : decode cX9_init 27 = .ok (.new 16, 3) := by decide +kernel
theorem dX9_init_30 : decode cX9_init 30 = .ok (.dup, 1) := by decide +kernel
theorem dX9_init_31 : decode cX9_init 31 = .ok (.invokespecial 18, 3) := by decide +kernel
theorem dX9_init_34 : decode cX9_init 34 = .ok (.putfield 23, 3) := by decide +kernel
theorem dX9_init_37 : decode cX9_init 37 = .ok (.aload_n 0, 1) := by decide +kernel
theorem dX9_init_38 : decode cX9_init 38 = .ok (.new 26, 3) := by decide +kernel
theorem dX9_init_41 : decode cX9_init 41 = .ok (.dup, 1) := by decide +kernel
theorem dX9_init_42 : decode cX9_init 42 = .ok (.invokespecial 28, 3) := by decide +kernel
theorem dX9_init_45 : decode cX9_init 45 = .ok (.putfield 29, 3) := by decide +kernel
theorem dX9_init_48 : decode cX9_init 48 = .ok (.aload_n 0, 1) := by decide +kernel
theorem dX9_init_49 : decode cX9_init 49 = .ok (.new 33, 3) := by decide +kernel
theorem dX9_init_52 : decode cX9_init 52 = .ok (.dup, 1) := by decide +kernel
theorem dX9_init_53 : decode cX9_init 53 = .ok (.invokespecial 35, 3) := by decide +kernel
theorem dX9_init_56 : decode cX9_init 56 = .ok (.putfield 36, 3) := by decide +kernel
theorem dX9_init_59 : decode cX9_init 59 = .ok (.aload_n 0, 1) := by decide +kernel
theorem dX9_init_60 : decode cX9_init 60 = .ok (.iconst 3, 1) := by decide +kernel
theorem dX9_init_61 : decode cX9_init 61 = .ok (.anewarray 40, 3) := by decide +kernel
theorem dX9_init_64 : decode cX9_init 64 = .ok (.putfield 42, 3) := by decide +kernel
theorem dX9_init_67 : decode cX9_init 67 = .ok (.aload_n 0, 1) := by decide +kernel
theorem dX9_init_68 : decode cX9_init 68 = .ok (.iconst 3, 1) := by decide +kernel
theorem dX9_init_69 : decode cX9_init 69 = .ok (.newarray .int, 2) := by decide +kernel
theorem dX9_init_71 : decode cX9_init 71 = .ok (.putfield 46, 3) := by decide +kernel
theorem dX9_init_74 : decode cX9_init 74 = .ok (.aload_n 0, 1) := by decide +kernel
theorem dX9_init_75 : decode cX9_init 75 = .ok (.iconst 0, 1) := by decide +kernel
theorem dX9_init_76 : decode cX9_init 76 = .ok (.putfield 50, 3) := by decide +kernel
theorem dX9_init_79 : decode cX9_init 79 = .ok (.aload_n 0, 1) := by decide +kernel
theorem dX9_init_80 : decode cX9_init 80 = .ok (.iconst 2, 1) := by decide +kernel
theorem dX9_init_81 : decode cX9_init 81 = .ok (.anewarray 16, 3) := by decide +kernel
theorem dX9_init_84 : decode cX9_init 84 = .ok (.putfield 54, 3) := by decide +kernel
theorem dX9_init_87 : decode cX9_init 87 = .ok (.aload_n 0, 1) := by decide +kernel
theorem dX9_init_88 : decode cX9_init 88 = .ok (.iconst 2, 1) := by decide +kernel
theorem dX9_init_89 : decode cX9_init 89 = .ok (.newarray .boolean, 2) := by decide +kernel
theorem dX9_init_91 : decode cX9_init 91 = .ok (.putfield 58, 3) := by decide +kernel
theorem dX9_init_94 : decode cX9_init 94 = .ok (.aload_n 0, 1) := by decide +kernel
theorem dX9_init_95 : decode cX9_init 95 = .ok (.new 62, 3) := by decide +kernel
theorem dX9_init_98 : decode cX9_init 98 = .ok (.dup, 1) := by decide +kernel
theorem dX9_init_99 : decode cX9_init 99 = .ok (.invokespecial 64, 3) := by decide +kernel
theorem dX9_init_102 : decode cX9_init 102 = .ok (.putfield 65, 3) := by decide +kernel
theorem dX9_init_105 : decode cX9_init 105 = .ok (.aload_n 0, 1) := by decide +kernel
theorem dX9_init_106 : decode cX9_init 106 = .ok (.new 69, 3) := by decide +kernel
theorem dX9_init_109 : decode cX9_init 109 = .ok (.dup, 1) := by decide +kernel
theorem dX9_init_110 : decode cX9_init 110 = .ok (.invokespecial 71, 3) := by decide +kernel
theorem dX9_init_113 : decode cX9_init 113 = .ok (.putfield 72, 3) := by decide +kernel
theorem dX9_init_116 : decode cX9_init 116 = .ok (.aload_n 0, 1) := by decide +kernel
theorem dX9_init_117 : decode cX9_init 117 = .ok (.new 76, 3) := by decide +kernel
theorem dX9_init_120 : decode cX9_init 120 = .ok (.dup, 1) := by decide +kernel
theorem dX9_init_121 : decode cX9_init 121 = .ok (.invokespecial 78, 3) := by decide +kernel
theorem dX9_init_124 : decode cX9_init 124 = .ok (.putfield 79, 3) := by decide +kernel
theorem dX9_init_127 : decode cX9_init 127 = .ok (.aload_n 0, 1) := by decide +kernel
theorem dX9_init_128 : decode cX9_init 128 = .ok (.new 83, 3) := by decide +kernel
theorem dX9_init_131 : decode cX9_init 131 = .ok (.dup, 1) := by decide +kernel
theorem dX9_init_132 : decode cX9_init 132 = .ok (.invokespecial 85, 3) := by decide +kernel
theorem dX9_init_135 : decode cX9_init 135 = .ok (.putfield 86, 3) := by decide +kernel
theorem dX9_init_138 : decode cX9_init 138 = .ok (.aload_n 0, 1) := by decide +kernel
theorem dX9_init_139 : decode cX9_init 139 = .ok (.bipush 8, 2) := by decide +kernel
theorem dX9_init_141 : decode cX9_init 141 = .ok (.newarray .int, 2) := by decide +kernel
theorem dX9_init_143 : decode cX9_init 143 = .ok (.putfield 90, 3) := by decide +kernel
theorem dX9_init_146 : decode cX9_init 146 = .ok (.aload_n 0, 1) := by decide +kernel
theorem dX9_init_147 : decode cX9_init 147 = .ok (.iconst 0, 1) := by decide +kernel
theorem dX9_init_148 : decode cX9_init 148 = .ok (.putfield 93, 3) := by decide +kernel
theorem dX9_init_151 : decode cX9_init 151 = .ok (.iconst 0, 1) := by decide +kernel
theorem dX9_init_152 : decode cX9_init 152 = .ok (.istore_n 1, 1) := by decide +kernel
theorem dX9_init_153 : decode cX9_init 153 = .ok (.iload_n 1, 1) := by decide +kernel
theorem dX9_init_154 : decode cX9_init 154 = .ok (.iconst 3, 1) := by decide +kernel
theorem dX9_init_155 : decode cX9_init 155 = .ok (.if_icmp .ge 22, 3) := by decide +kernel
theorem dX9_init_158 : decode cX9_init 158 = .ok (.aload_n 0, 1) := by decide +kernel
theorem dX9_init_159 : decode cX9_init 159 = .ok (.getfield 42, 3) := by decide +kernel
theorem dX9_init_162 : decode cX9_init 162 = .ok (.iload_n 1, 1) := by decide +kernel
theorem dX9_init_163 : decode cX9_init 163 = .ok (.new 40, 3) := by decide +kernel
theorem dX9_init_166 : decode cX9_init 166 = .ok (.dup, 1) := by decide +kernel
theorem dX9_init_167 : decode cX9_init 167 = .ok (.invokespecial 97, 3) := by decide +kernel
theorem dX9_init_170 : decode cX9_init 170 = .ok (.aastore, 1) := by decide +kernel
theorem dX9_init_171 : decode cX9_init 171 = .ok (.iinc 1 1, 3) := by decide +kernel
theorem dX9_init_174 : decode cX9_init 174 = .ok (.goto (-21), 3) := by decide +kernel
theorem dX9_init_177 : decode cX9_init 177 = .ok (.iconst 0, 1) := by decide +kernel
theorem dX9_init_178 : decode cX9_init 178 = .ok (.istore_n 1, 1) := by decide +kernel
theorem dX9_init_179 : decode cX9_init 179 = .ok (.iload_n 1, 1) := by decide +kernel
theorem dX9_init_180 : decode cX9_init 180 = .ok (.iconst 2, 1) := by decide +kernel
theorem dX9_init_181 : decode cX9_init 181 = .ok (.if_icmp .ge 22, 3) := by decide +kernel
theorem dX9_init_184 : decode cX9_init 184 = .ok (.aload_n 0, 1) := by decide +kernel
theorem dX9_init_185 : decode cX9_init 185 = .ok (.getfield 54, 3) := by decide +kernel
theorem dX9_init_188 : decode cX9_init 188 = .ok (.iload_n 1, 1) := by decide +kernel
theorem dX9_init_189 : decode cX9_init 189 = .ok (.new 16, 3) := by decide +kernel
theorem dX9_init_192 : decode cX9_init 192 = .ok (.dup, 1) := by decide +kernel
theorem dX9_init_193 : decode cX9_init 193 = .ok (.invokespecial 18, 3) := by decide +kernel
theorem dX9_init_196 : decode cX9_init 196 = .ok (.aastore, 1) := by decide +kernel
theorem dX9_init_197 : decode cX9_init 197 = .ok (.iinc 1 1, 3) := by decide +kernel
theorem dX9_init_200 : decode cX9_init 200 = .ok (.goto (-21), 3) := by decide +kernel
theorem dX9_init_203 : decode cX9_init 203 = .ok (.aload_n 0, 1) := by decide +kernel
theorem dX9_init_204 : decode cX9_init 204 = .ok (.invokevirtual 98, 3) := by decide +kernel
theorem dX9_init_207 : decode cX9_init 207 = .ok (.return_, 1) := by decide +kernel
set_option maxRecDepth 20000 in
theorem ggX9_format_X9_endSlotsAndPins : GoodIn wsX9_format wsX9_endSlotsAndPins := goodIn_r _ [8, 9, 10, 11, 12, 13, 14, 15, 16, 17, 18, 19, 20, 21, 22, 23, 24, 25, 26, 78, 79, 80, 81, 82, 83, 84, 85, 86, 87, 88, 89, 90, 91, 92, 93, 100, 101, 102, 103, 104, 105, 106] (by decide +kernel) (by decide +kernel)
set_option maxRecDepth 20000 in
theorem gX9_format_X9_endSlotsAndPins : GoodIn wsX9_format (wsV RX9 104 RX9 yX9_endSlotsAndPins wsX9_endSlotsAndPins) := goodIn_app (goodIn_of _ (by decide +kernel)) ggX9_format_X9_endSlotsAndPins
set_option maxRecDepth 20000 in
theorem ggX9_format_X9_makeNewFile : GoodIn wsX9_format wsX9_makeNewFile := goodIn_r _ [30, 31, 2, 32, 33, 34, 1, 35, 36, 37, 38, 39, 40, 41, 42, 43, 44, 45, 46, 47, 48, 49, 50, 51, 52, 53, 54, 55, 56, 57, 58, 59, 60, 61, 62, 63, 64, 65, 66, 67, 68, 69, 70, 71, 72, 73, 74, 75, 76, 77, 78, 79, 80, 81, 82, 83, 84, 85, 86, 87, 88, 89, 90, 91, 92, 93, 107, 108, 94, 95, 96, 97, 98, 99] (by decide +kernel) (by decide +kernel)
set_option maxRecDepth 20000 in
theorem gX9_format_X9_makeNewFile : GoodIn wsX9_format (wsV RX9 98 RX9 yX9_makeNewFile wsX9_makeNewFile) := goodIn_app (goodIn_of _ (by decide +kernel)) ggX9_format_X9_makeNewFile
theorem dX9_format_0 : decode cX9_format 0 = .ok (.aload_n 0, 1) := by decide +kernel
theorem dX9_format_1 : decode cX9_format 1 = .ok (.getfield 93, 3) := by decide +kernel
theorem dX9_format_4 : decode cX9_format 4 = .ok (.ifCond .eq 13, 3) := by decide +kernel
theorem dX9_format_7 : decode cX9_format 7 = .ok (.aload_n 0, 1) := by decide +kernel
theorem dX9_format_8 : decode cX9_format 8 = .ok (.getfield 19, 3) := by decide +kernel
theorem dX9_format_11 : decode cX9_format 11 = .ok (.getfield 101, 3) := by decide +kernel
theorem dX9_format_14 : decode cX9_format 14 = .ok (.goto 4, 3) := by decide +kernel
theorem dX9_format_17 : decode cX9_format 17 = .ok (.iconst (-1), 1) := by decide +kernel
theorem dX9_format_18 : decode cX9_format 18 = .ok (.istore_n 1, 1) := by decide +kernel
theorem dX9_format_19 : decode cX9_format 19 = .ok (.aload_n 0, 1) := by decide +kernel
theorem dX9_format_20 : decode cX9_format 20 = .ok (.invokevirtual 104, 3) := by decide +kernel
theorem dX9_format_23 : decode cX9_format 23 = .ok (.aload_n 0, 1) := by decide +kernel
theorem dX9_format_24 : decode cX9_format 24 = .ok (.invokevirtual 98, 3) := by decide +kernel
theorem dX9_format_27 : decode cX9_format 27 = .ok (.iload_n 1, 1) := by decide +kernel
theorem dX9_format_28 : decode cX9_format 28 = .ok (.ireturn, 1) := by decide +kernel
set_option maxRecDepth 20000 in
theorem ggX9_begin_X9_requireOpen : GoodIn wsX9_begin wsX9_requireOpen := goodIn_ca (goodIn_r _ [9, 1, 2, 10, 26, 27, 28, 29, 30, 31, 32, 33, 34, 35, 36, 37, 38, 39, 40, 41] (by decide +kernel) (by decide +kernel)) (goodIn_sub (fun _ h => List.mem_cons_of_mem _ (List.mem_append_right _ h)) (by decide +kernel))
set_option maxRecDepth 20000 in
theorem gX9_begin_X9_requireOpen : GoodIn wsX9_begin (wsV RX9 107 RX9 yX9_requireOpen wsX9_requireOpen) := goodIn_app (goodIn_of _ (by decide +kernel)) ggX9_begin_X9_requireOpen
set_option maxRecDepth 20000 in
theorem ggX9_begin_X7_reset : GoodIn wsX9_begin wsX7_reset := goodIn_r _ [15, 16, 17, 18, 19, 20, 21, 22, 23, 24, 25, 42, 43, 44, 45, 46, 47, 48] (by decide +kernel) (by decide +kernel)
set_option maxRecDepth 20000 in
theorem gX9_begin_X7_reset : GoodIn wsX9_begin (wsV RX9 113 RX7 yX7_reset wsX7_reset) := goodIn_app (goodIn_of _ (by decide +kernel)) ggX9_begin_X7_reset
theorem dX9_begin_0 : decode cX9_begin 0 = .ok (.aload_n 0, 1) := by decide +kernel
theorem dX9_begin_1 : decode cX9_begin 1 = .ok (.invokevirtual 107, 3) := by decide +kernel
theorem dX9_begin_4 : decode cX9_begin 4 = .ok (.iconst 0, 1) := by decide +kernel
theorem dX9_begin_5 : decode cX9_begin 5 = .ok (.istore_n 1, 1) := by decide +kernel
theorem dX9_begin_6 : decode cX9_begin 6 = .ok (.iload_n 1, 1) := by decide +kernel
theorem dX9_begin_7 : decode cX9_begin 7 = .ok (.iconst 3, 1) := by decide +kernel
theorem dX9_begin_8 : decode cX9_begin 8 = .ok (.if_icmp .ge 33, 3) := by decide +kernel
theorem dX9_begin_11 : decode cX9_begin 11 = .ok (.aload_n 0, 1) := by decide +kernel
theorem dX9_begin_12 : decode cX9_begin 12 = .ok (.getfield 42, 3) := by decide +kernel
theorem dX9_begin_15 : decode cX9_begin 15 = .ok (.iload_n 1, 1) := by decide +kernel
theorem dX9_begin_16 : decode cX9_begin 16 = .ok (.aaload, 1) := by decide +kernel
theorem dX9_begin_17 : decode cX9_begin 17 = .ok (.getfield 110, 3) := by decide +kernel
theorem dX9_begin_20 : decode cX9_begin 20 = .ok (.ifCond .ne 15, 3) := by decide +kernel
theorem dX9_begin_23 : decode cX9_begin 23 = .ok (.aload_n 0, 1) := by decide +kernel
theorem dX9_begin_24 : decode cX9_begin 24 = .ok (.getfield 42, 3) := by decide +kernel
theorem dX9_begin_27 : decode cX9_begin 27 = .ok (.iload_n 1, 1) := by decide +kernel
theorem dX9_begin_28 : decode cX9_begin 28 = .ok (.aaload, 1) := by decide +kernel
theorem dX9_begin_29 : decode cX9_begin 29 = .ok (.iconst 1, 1) := by decide +kernel
theorem dX9_begin_30 : decode cX9_begin 30 = .ok (.invokevirtual 113, 3) := by decide +kernel
theorem dX9_begin_33 : decode cX9_begin 33 = .ok (.iload_n 1, 1) := by decide +kernel
theorem dX9_begin_34 : decode cX9_begin 34 = .ok (.ireturn, 1) := by decide +kernel
theorem dX9_begin_35 : decode cX9_begin 35 = .ok (.iinc 1 1, 3) := by decide +kernel
theorem dX9_begin_38 : decode cX9_begin 38 = .ok (.goto (-32), 3) := by decide +kernel
theorem dX9_begin_41 : decode cX9_begin 41 = .ok (.new 117, 3) := by decide +kernel
theorem dX9_begin_44 : decode cX9_begin 44 = .ok (.dup, 1) := by decide +kernel
theorem dX9_begin_45 : decode cX9_begin 45 = .ok (.ldc 119, 2) := by decide +kernel
theorem dX9_begin_47 : decode cX9_begin 47 = .ok (.invokespecial 121, 3) := by decide +kernel
theorem dX9_begin_50 : decode cX9_begin 50 = .ok (.athrow, 1) := by decide +kernel
set_option maxRecDepth 20000 in
theorem ggX9_put_X9_requireSlot : GoodIn wsX9_put wsX9_requireSlot := goodIn_ca (goodIn_r _ [8, 9, 10, 7, 11, 12, 13] (by decide +kernel) (by decide +kernel)) (goodIn_sub (fun _ h => List.mem_cons_of_mem _ (List.mem_append_left _ (List.mem_append_right _ h))) (by decide +kernel))
set_option maxRecDepth 20000 in
theorem gX9_put_X9_requireSlot : GoodIn wsX9_put (va_wsS RX9 124 yX9_requireSlot wsX9_requireSlot) := goodIn_app (goodIn_of _ (by decide +kernel)) ggX9_put_X9_requireSlot
set_option maxRecDepth 20000 in
theorem ggX9_put_X9_requireKey : GoodIn wsX9_put wsX9_requireKey := goodIn_ca (goodIn_r _ [16, 1, 2] (by decide +kernel) (by decide +kernel)) (goodIn_sub (fun _ h => List.mem_cons_of_mem _ (List.mem_append_left _ (List.mem_append_left _ (List.mem_append_right _ h)))) (by decide +kernel))
set_option maxRecDepth 20000 in
theorem gX9_put_X9_requireKey : GoodIn wsX9_put (va_wsS RX9 127 yX9_requireKey wsX9_requireKey) := goodIn_app (goodIn_of _ (by decide +kernel)) ggX9_put_X9_requireKey
set_option maxRecDepth 20000 in
theorem ggX9_put_X9_requireActive : GoodIn wsX9_put wsX9_requireActive := goodIn_ca (goodIn_r _ [20, 21, 22, 3, 23, 46, 47, 48, 49, 50, 51, 52, 53, 54, 55, 56, 57, 58, 59, 60, 61, 62, 63, 64, 65] (by decide +kernel) (by decide +kernel)) (goodIn_sub (fun _ h => List.mem_cons_of_mem _ (List.mem_append_right _ h)) (by decide +kernel))
set_option maxRecDepth 20000 in
theorem gX9_put_X9_requireActive : GoodIn wsX9_put (wsV RX9 135 RX9 yX9_requireActive wsX9_requireActive) := goodIn_app (goodIn_of _ (by decide +kernel)) ggX9_put_X9_requireActive
set_option maxRecDepth 20000 in
theorem ggX9_put_X9_isInView : GoodIn wsX9_put wsX9_isInView := goodIn_r _ [27, 3, 4, 28, 29, 30, 31, 32, 33, 7, 34, 46, 47, 48, 49, 50, 51, 52, 53, 54, 55, 56, 57, 58, 59, 60, 61, 62, 63, 64, 65, 66, 67, 68, 69, 70, 71, 72, 73, 74] (by decide +kernel) (by decide +kernel)
set_option maxRecDepth 20000 in
theorem gX9_put_X9_isInView : GoodIn wsX9_put (wsV RX9 138 RX9 yX9_isInView wsX9_isInView) := goodIn_app (goodIn_of _ (by decide +kernel)) ggX9_put_X9_isInView
set_option maxRecDepth 20000 in
theorem ggX9_put_X0_renew : GoodIn wsX9_put wsX0_renew := goodIn_r _ [39, 40, 41, 42, 43, 44, 7, 45, 66, 67, 68] (by decide +kernel) (by decide +kernel)
set_option maxRecDepth 20000 in
theorem gX9_put_X0_renew : GoodIn wsX9_put (wsV RX9 145 RX0 yX0_renew wsX0_renew) := goodIn_app (goodIn_of _ (by decide +kernel)) ggX9_put_X0_renew
theorem dX9_put_0 : decode cX9_put 0 = .ok (.iload_n 1, 1) := by decide +kernel
theorem dX9_put_1 : decode cX9_put 1 = .ok (.invokestatic 124, 3) := by decide +kernel
theorem dX9_put_4 : decode cX9_put 4 = .ok (.iload_n 2, 1) := by decide +kernel
theorem dX9_put_5 : decode cX9_put 5 = .ok (.invokestatic 127, 3) := by decide +kernel
theorem dX9_put_8 : decode cX9_put 8 = .ok (.iload_n 3, 1) := by decide +kernel
theorem dX9_put_9 : decode cX9_put 9 = .ok (.sipush (-9999), 3) := by decide +kernel
theorem dX9_put_12 : decode cX9_put 12 = .ok (.if_icmp .lt 10, 3) := by decide +kernel
theorem dX9_put_15 : decode cX9_put 15 = .ok (.iload_n 3, 1) := by decide +kernel
theorem dX9_put_16 : decode cX9_put 16 = .ok (.sipush 9999, 3) := by decide +kernel
theorem dX9_put_19 : decode cX9_put 19 = .ok (.if_icmp .le 13, 3) := by decide +kernel
theorem dX9_put_22 : decode cX9_put 22 = .ok (.new 130, 3) := by decide +kernel
theorem dX9_put_25 : decode cX9_put 25 = .ok (.dup, 1) := by decide +kernel
theorem dX9_put_26 : decode cX9_put 26 = .ok (.ldc 132, 2) := by decide +kernel
theorem dX9_put_28 : decode cX9_put 28 = .ok (.invokespecial 134, 3) := by decide +kernel
theorem dX9_put_31 : decode cX9_put 31 = .ok (.athrow, 1) := by decide +kernel
theorem dX9_put_32 : decode cX9_put 32 = .ok (.aload_n 0, 1) := by decide +kernel
theorem dX9_put_33 : decode cX9_put 33 = .ok (.iload_n 1, 1) := by decide +kernel
theorem dX9_put_34 : decode cX9_put 34 = .ok (.invokevirtual 135, 3) := by decide +kernel
theorem dX9_put_37 : decode cX9_put 37 = .ok (.aload_n 0, 1) := by decide +kernel
theorem dX9_put_38 : decode cX9_put 38 = .ok (.iload_n 1, 1) := by decide +kernel
theorem dX9_put_39 : decode cX9_put 39 = .ok (.iload_n 2, 1) := by decide +kernel
theorem dX9_put_40 : decode cX9_put 40 = .ok (.invokevirtual 138, 3) := by decide +kernel
theorem dX9_put_43 : decode cX9_put 43 = .ok (.istore 4, 2) := by decide +kernel
theorem dX9_put_45 : decode cX9_put 45 = .ok (.aload_n 0, 1) := by decide +kernel
theorem dX9_put_46 : decode cX9_put 46 = .ok (.getfield 42, 3) := by decide +kernel
theorem dX9_put_49 : decode cX9_put 49 = .ok (.iload_n 1, 1) := by decide +kernel
theorem dX9_put_50 : decode cX9_put 50 = .ok (.aaload, 1) := by decide +kernel
theorem dX9_put_51 : decode cX9_put 51 = .ok (.getfield 142, 3) := by decide +kernel
theorem dX9_put_54 : decode cX9_put 54 = .ok (.iload_n 2, 1) := by decide +kernel
theorem dX9_put_55 : decode cX9_put 55 = .ok (.iload_n 3, 1) := by decide +kernel
theorem dX9_put_56 : decode cX9_put 56 = .ok (.invokevirtual 145, 3) := by decide +kernel
theorem dX9_put_59 : decode cX9_put 59 = .ok (.iload 4, 2) := by decide +kernel
theorem dX9_put_61 : decode cX9_put 61 = .ok (.ireturn, 1) := by decide +kernel
set_option maxRecDepth 20000 in
theorem ggX9_remove_X9_requireSlot : GoodIn wsX9_remove wsX9_requireSlot := goodIn_ca (goodIn_r _ [6, 7, 8, 5, 9, 10, 11] (by decide +kernel) (by decide +kernel)) (goodIn_sub (fun _ h => List.mem_cons_of_mem _ (List.mem_append_left _ (List.mem_append_left _ (List.mem_append_left _ (List.mem_append_right _ h))))) (by decide +kernel))
set_option maxRecDepth 20000 in
theorem gX9_remove_X9_requireSlot : GoodIn wsX9_remove (va_wsS RX9 124 yX9_requireSlot wsX9_requireSlot) := goodIn_app (goodIn_of _ (by decide +kernel)) ggX9_remove_X9_requireSlot
set_option maxRecDepth 20000 in
theorem ggX9_remove_X9_requireKey : GoodIn wsX9_remove wsX9_requireKey := goodIn_ca (goodIn_r _ [14, 15, 16] (by decide +kernel) (by decide +kernel)) (goodIn_sub (fun _ h => List.mem_cons_of_mem _ (List.mem_append_left _ (List.mem_append_left _ (List.mem_append_right _ h)))) (by decide +kernel))
set_option maxRecDepth 20000 in
theorem gX9_remove_X9_requireKey : GoodIn wsX9_remove (va_wsS RX9 127 yX9_requireKey wsX9_requireKey) := goodIn_app (goodIn_of _ (by decide +kernel)) ggX9_remove_X9_requireKey
set_option maxRecDepth 20000 in
theorem ggX9_remove_X9_requireActive : GoodIn wsX9_remove wsX9_requireActive := goodIn_ca (goodIn_r _ [20, 21, 22, 1, 23, 56, 57, 58, 59, 60, 61, 62, 63, 64, 65, 66, 67, 68, 69, 70, 71, 72, 73, 74, 75] (by decide +kernel) (by decide +kernel)) (goodIn_sub (fun _ h => List.mem_cons_of_mem _ (List.mem_append_left _ (List.mem_append_right _ h))) (by decide +kernel))
set_option maxRecDepth 20000 in
theorem gX9_remove_X9_requireActive : GoodIn wsX9_remove (wsV RX9 135 RX9 yX9_requireActive wsX9_requireActive) := goodIn_app (goodIn_of _ (by decide +kernel)) ggX9_remove_X9_requireActive
set_option maxRecDepth 20000 in
theorem ggX9_remove_X9_requireInView : GoodIn wsX9_remove wsX9_requireInView := goodIn_ca (goodIn_r _ [27, 28, 29, 30, 31, 32, 5, 33, 1, 2, 34, 35, 36, 37, 38, 39, 40, 56, 57, 58, 59, 60, 61, 62, 63, 64, 65, 66, 67, 68, 69, 70, 71, 72, 73, 74, 75, 76, 77, 78, 79, 80, 81, 82, 83, 84] (by decide +kernel) (by decide +kernel)) (goodIn_sub (fun _ h => List.mem_cons_of_mem _ (List.mem_append_right _ h)) (by decide +kernel))
set_option maxRecDepth 20000 in
theorem gX9_remove_X9_requireInView : GoodIn wsX9_remove (wsV RX9 149 RX9 yX9_requireInView wsX9_requireInView) := goodIn_app (goodIn_of _ (by decide +kernel)) ggX9_remove_X9_requireInView
set_option maxRecDepth 20000 in
theorem ggX9_remove_X9_valueInView : GoodIn wsX9_remove wsX9_valueInView := goodIn_r _ [44, 1, 2, 34, 45, 36, 46, 38, 39, 5, 40, 56, 57, 58, 59, 60, 61, 62, 63, 64, 65, 66, 67, 68, 69, 70, 71, 72, 73, 74, 75, 76, 77, 78, 79, 80, 81, 82, 83, 84] (by decide +kernel) (by decide +kernel)
set_option maxRecDepth 20000 in
theorem gX9_remove_X9_valueInView : GoodIn wsX9_remove (wsV RX9 152 RX9 yX9_valueInView wsX9_valueInView) := goodIn_app (goodIn_of _ (by decide +kernel)) ggX9_remove_X9_valueInView
set_option maxRecDepth 20000 in
theorem ggX9_remove_X0_drop : GoodIn wsX9_remove wsX0_drop := goodIn_r _ [51, 52, 53, 54, 5, 55, 76, 77, 78] (by decide +kernel) (by decide +kernel)
set_option maxRecDepth 20000 in
theorem gX9_remove_X0_drop : GoodIn wsX9_remove (wsV RX9 156 RX0 yX0_drop wsX0_drop) := goodIn_app (goodIn_of _ (by decide +kernel)) ggX9_remove_X0_drop
theorem dX9_remove_0 : decode cX9_remove 0 = .ok (.iload_n 1, 1) := by decide +kernel
theorem dX9_remove_1 : decode cX9_remove 1 = .ok (.invokestatic 124, 3) := by decide +kernel
theorem dX9_remove_4 : decode cX9_remove 4 = .ok (.iload_n 2, 1) := by decide +kernel
theorem dX9_remove_5 : decode cX9_remove 5 = .ok (.invokestatic 127, 3) := by decide +kernel
theorem dX9_remove_8 : decode cX9_remove 8 = .ok (.aload_n 0, 1) := by decide +kernel
theorem dX9_remove_9 : decode cX9_remove 9 = .ok (.iload_n 1, 1) := by decide +kernel
theorem dX9_remove_10 : decode cX9_remove 10 = .ok (.invokevirtual 135, 3) := by decide +kernel
theorem dX9_remove_13 : decode cX9_remove 13 = .ok (.aload_n 0, 1) := by decide +kernel
theorem dX9_remove_14 : decode cX9_remove 14 = .ok (.iload_n 1, 1) := by decide +kernel
theorem dX9_remove_15 : decode cX9_remove 15 = .ok (.iload_n 2, 1) := by decide +kernel
theorem dX9_remove_16 : decode cX9_remove 16 = .ok (.invokevirtual 149, 3) := by decide +kernel
theorem dX9_remove_19 : decode cX9_remove 19 = .ok (.aload_n 0, 1) := by decide +kernel
theorem dX9_remove_20 : decode cX9_remove 20 = .ok (.iload_n 1, 1) := by decide +kernel
theorem dX9_remove_21 : decode cX9_remove 21 = .ok (.iload_n 2, 1) := by decide +kernel
theorem dX9_remove_22 : decode cX9_remove 22 = .ok (.invokevirtual 152, 3) := by decide +kernel
theorem dX9_remove_25 : decode cX9_remove 25 = .ok (.istore_n 3, 1) := by decide +kernel
theorem dX9_remove_26 : decode cX9_remove 26 = .ok (.aload_n 0, 1) := by decide +kernel
theorem dX9_remove_27 : decode cX9_remove 27 = .ok (.getfield 42, 3) := by decide +kernel
theorem dX9_remove_30 : decode cX9_remove 30 = .ok (.iload_n 1, 1) := by decide +kernel
theorem dX9_remove_31 : decode cX9_remove 31 = .ok (.aaload, 1) := by decide +kernel
theorem dX9_remove_32 : decode cX9_remove 32 = .ok (.getfield 142, 3) := by decide +kernel
theorem dX9_remove_35 : decode cX9_remove 35 = .ok (.iload_n 2, 1) := by decide +kernel
theorem dX9_remove_36 : decode cX9_remove 36 = .ok (.invokevirtual 156, 3) := by decide +kernel
theorem dX9_remove_39 : decode cX9_remove 39 = .ok (.iload_n 3, 1) := by decide +kernel
theorem dX9_remove_40 : decode cX9_remove 40 = .ok (.ireturn, 1) := by decide +kernel
set_option maxRecDepth 20000 in
theorem ggX9_get_X9_requireSlot : GoodIn wsX9_get wsX9_requireSlot := goodIn_ca (goodIn_r _ [4, 5, 6, 3, 7, 8, 9] (by decide +kernel) (by decide +kernel)) (goodIn_sub (fun _ h => List.mem_cons_of_mem _ (List.mem_append_left _ (List.mem_append_left _ (List.mem_append_left _ (List.mem_append_right _ h))))) (by decide +kernel))
set_option maxRecDepth 20000 in
theorem gX9_get_X9_requireSlot : GoodIn wsX9_get (va_wsS RX9 124 yX9_requireSlot wsX9_requireSlot) := goodIn_app (goodIn_of _ (by decide +kernel)) ggX9_get_X9_requireSlot
set_option maxRecDepth 20000 in
theorem ggX9_get_X9_requireKey : GoodIn wsX9_get wsX9_requireKey := goodIn_ca (goodIn_r _ [12, 13, 14] (by decide +kernel) (by decide +kernel)) (goodIn_sub (fun _ h => List.mem_cons_of_mem _ (List.mem_append_left _ (List.mem_append_left _ (List.mem_append_right _ h)))) (by decide +kernel))
set_option maxRecDepth 20000 in
theorem gX9_get_X9_requireKey : GoodIn wsX9_get (va_wsS RX9 127 yX9_requireKey wsX9_requireKey) := goodIn_app (goodIn_of _ (by decide +kernel)) ggX9_get_X9_requireKey
set_option maxRecDepth 20000 in
theorem ggX9_get_X9_requireNotIdle : GoodIn wsX9_get wsX9_requireNotIdle := goodIn_ca (goodIn_r _ [18, 19, 20, 21, 22, 47, 48, 49, 50, 51, 52, 53, 54, 55, 56, 57, 58, 59, 60, 61, 62, 63, 64, 65, 66] (by decide +kernel) (by decide +kernel)) (goodIn_sub (fun _ h => List.mem_cons_of_mem _ (List.mem_append_left _ (List.mem_append_right _ h))) (by decide +kernel))
set_option maxRecDepth 20000 in
theorem gX9_get_X9_requireNotIdle : GoodIn wsX9_get (wsV RX9 159 RX9 yX9_requireNotIdle wsX9_requireNotIdle) := goodIn_app (goodIn_of _ (by decide +kernel)) ggX9_get_X9_requireNotIdle
set_option maxRecDepth 20000 in
theorem ggX9_get_X9_requireInView : GoodIn wsX9_get wsX9_requireInView := goodIn_ca (goodIn_r _ [26, 27, 28, 29, 30, 31, 3, 32, 21, 33, 34, 35, 36, 37, 38, 39, 40, 47, 48, 49, 50, 51, 52, 53, 54, 55, 56, 57, 58, 59, 60, 61, 62, 63, 64, 65, 66, 67, 68, 69, 70, 71, 72, 73, 74, 75] (by decide +kernel) (by decide +kernel)) (goodIn_sub (fun _ h => List.mem_cons_of_mem _ (List.mem_append_right _ h)) (by decide +kernel))
set_option maxRecDepth 20000 in
theorem gX9_get_X9_requireInView : GoodIn wsX9_get (wsV RX9 149 RX9 yX9_requireInView wsX9_requireInView) := goodIn_app (goodIn_of _ (by decide +kernel)) ggX9_get_X9_requireInView
set_option maxRecDepth 20000 in
theorem ggX9_get_X9_valueInView : GoodIn wsX9_get wsX9_valueInView := goodIn_r _ [44, 21, 33, 34, 45, 36, 46, 38, 39, 3, 40, 47, 48, 49, 50, 51, 52, 53, 54, 55, 56, 57, 58, 59, 60, 61, 62, 63, 64, 65, 66, 67, 68, 69, 70, 71, 72, 73, 74, 75] (by decide +kernel) (by decide +kernel)
set_option maxRecDepth 20000 in
theorem gX9_get_X9_valueInView : GoodIn wsX9_get (wsV RX9 152 RX9 yX9_valueInView wsX9_valueInView) := goodIn_app (goodIn_of _ (by decide +kernel)) ggX9_get_X9_valueInView
theorem dX9_get_0 : decode cX9_get 0 = .ok (.iload_n 1, 1) := by decide +kernel
theorem dX9_get_1 : decode cX9_get 1 = .ok (.invokestatic 124, 3) := by decide +kernel
theorem dX9_get_4 : decode cX9_get 4 = .ok (.iload_n 2, 1) := by decide +kernel
theorem dX9_get_5 : decode cX9_get 5 = .ok (.invokestatic 127, 3) := by decide +kernel
theorem dX9_get_8 : decode cX9_get 8 = .ok (.aload_n 0, 1) := by decide +kernel
theorem dX9_get_9 : decode cX9_get 9 = .ok (.iload_n 1, 1) := by decide +kernel
theorem dX9_get_10 : decode cX9_get 10 = .ok (.invokevirtual 159, 3) := by decide +kernel
theorem dX9_get_13 : decode cX9_get 13 = .ok (.aload_n 0, 1) := by decide +kernel
theorem dX9_get_14 : decode cX9_get 14 = .ok (.iload_n 1, 1) := by decide +kernel
theorem dX9_get_15 : decode cX9_get 15 = .ok (.iload_n 2, 1) := by decide +kernel
theorem dX9_get_16 : decode cX9_get 16 = .ok (.invokevirtual 149, 3) := by decide +kernel
theorem dX9_get_19 : decode cX9_get 19 = .ok (.aload_n 0, 1) := by decide +kernel
theorem dX9_get_20 : decode cX9_get 20 = .ok (.iload_n 1, 1) := by decide +kernel
theorem dX9_get_21 : decode cX9_get 21 = .ok (.iload_n 2, 1) := by decide +kernel
theorem dX9_get_22 : decode cX9_get 22 = .ok (.invokevirtual 152, 3) := by decide +kernel
theorem dX9_get_25 : decode cX9_get 25 = .ok (.ireturn, 1) := by decide +kernel
set_option maxRecDepth 20000 in
theorem ggX9_changes_X9_requireSlot : GoodIn wsX9_changes wsX9_requireSlot := goodIn_ca (goodIn_r _ [6, 7, 8, 5, 9, 10, 11] (by decide +kernel) (by decide +kernel)) (goodIn_sub (fun _ h => List.mem_cons_of_mem _ (List.mem_append_right _ h)) (by decide +kernel))
set_option maxRecDepth 20000 in
theorem gX9_changes_X9_requireSlot : GoodIn wsX9_changes (va_wsS RX9 124 yX9_requireSlot wsX9_requireSlot) := goodIn_app (goodIn_of _ (by decide +kernel)) ggX9_changes_X9_requireSlot
set_option maxRecDepth 20000 in
theorem ggX9_changes_X0_count : GoodIn wsX9_changes wsX0_count := goodIn_r _ [16, 17, 18, 19, 20, 21, 22, 23, 24, 45, 46, 47] (by decide +kernel) (by decide +kernel)
set_option maxRecDepth 20000 in
theorem gX9_changes_X0_count : GoodIn wsX9_changes (wsV RX9 162 RX0 yX0_count wsX0_count) := goodIn_app (goodIn_of _ (by decide +kernel)) ggX9_changes_X0_count
theorem dX9_changes_0 : decode cX9_changes 0 = .ok (.iload_n 1, 1) := by decide +kernel
theorem dX9_changes_1 : decode cX9_changes 1 = .ok (.invokestatic 124, 3) := by decide +kernel
theorem dX9_changes_4 : decode cX9_changes 4 = .ok (.aload_n 0, 1) := by decide +kernel
theorem dX9_changes_5 : decode cX9_changes 5 = .ok (.getfield 42, 3) := by decide +kernel
theorem dX9_changes_8 : decode cX9_changes 8 = .ok (.iload_n 1, 1) := by decide +kernel
theorem dX9_changes_9 : decode cX9_changes 9 = .ok (.aaload, 1) := by decide +kernel
theorem dX9_changes_10 : decode cX9_changes 10 = .ok (.getfield 142, 3) := by decide +kernel
theorem dX9_changes_13 : decode cX9_changes 13 = .ok (.invokevirtual 162, 3) := by decide +kernel
theorem dX9_changes_16 : decode cX9_changes 16 = .ok (.ireturn, 1) := by decide +kernel
set_option maxRecDepth 20000 in
theorem ggX9_slotState_X9_requireSlot : GoodIn wsX9_slotState wsX9_requireSlot := goodIn_ca (goodIn_r _ [6, 7, 8, 5, 9, 10, 11] (by decide +kernel) (by decide +kernel)) (goodIn_sub (fun _ h => List.mem_cons_of_mem _ (List.mem_append_right _ h)) (by decide +kernel))
set_option maxRecDepth 20000 in
theorem gX9_slotState_X9_requireSlot : GoodIn wsX9_slotState (va_wsS RX9 124 yX9_requireSlot wsX9_requireSlot) := goodIn_app (goodIn_of _ (by decide +kernel)) ggX9_slotState_X9_requireSlot
theorem dX9_slotState_0 : decode cX9_slotState 0 = .ok (.iload_n 1, 1) := by decide +kernel
theorem dX9_slotState_1 : decode cX9_slotState 1 = .ok (.invokestatic 124, 3) := by decide +kernel
theorem dX9_slotState_4 : decode cX9_slotState 4 = .ok (.aload_n 0, 1) := by decide +kernel
theorem dX9_slotState_5 : decode cX9_slotState 5 = .ok (.getfield 42, 3) := by decide +kernel
theorem dX9_slotState_8 : decode cX9_slotState 8 = .ok (.iload_n 1, 1) := by decide +kernel
theorem dX9_slotState_9 : decode cX9_slotState 9 = .ok (.aaload, 1) := by decide +kernel
theorem dX9_slotState_10 : decode cX9_slotState 10 = .ok (.getfield 110, 3) := by decide +kernel
theorem dX9_slotState_13 : decode cX9_slotState 13 = .ok (.ireturn, 1) := by decide +kernel
set_option maxRecDepth 20000 in
theorem ggX9_mark_X9_requireSlot : GoodIn wsX9_mark wsX9_requireSlot := goodIn_ca (goodIn_r _ [8, 9, 10, 7, 11, 12, 13] (by decide +kernel) (by decide +kernel)) (goodIn_sub (fun _ h => List.mem_cons_of_mem _ (List.mem_append_right _ h)) (by decide +kernel))
set_option maxRecDepth 20000 in
theorem gX9_mark_X9_requireSlot : GoodIn wsX9_mark (va_wsS RX9 124 yX9_requireSlot wsX9_requireSlot) := goodIn_app (goodIn_of _ (by decide +kernel)) ggX9_mark_X9_requireSlot
set_option maxRecDepth 20000 in
theorem ggX9_mark_X9_requireActive : GoodIn wsX9_mark wsX9_requireActive := goodIn_ca (goodIn_r _ [17, 1, 2, 3, 18, 39, 40, 41, 42, 43, 44, 45, 46, 47, 48, 49, 50, 51, 52, 53, 54, 55, 56, 57, 58] (by decide +kernel) (by decide +kernel)) (goodIn_sub (fun _ h => List.mem_cons_of_mem _ (List.mem_append_left _ (List.mem_append_right _ h))) (by decide +kernel))
set_option maxRecDepth 20000 in
theorem gX9_mark_X9_requireActive : GoodIn wsX9_mark (wsV RX9 135 RX9 yX9_requireActive wsX9_requireActive) := goodIn_app (goodIn_of _ (by decide +kernel)) ggX9_mark_X9_requireActive
set_option maxRecDepth 20000 in
theorem ggX9_mark_X7_setMark : GoodIn wsX9_mark wsX7_setMark := goodIn_r _ [23, 24, 25, 26, 27, 28, 29, 30, 31, 32, 33, 34, 35, 36, 37, 38, 55, 56, 57, 58, 59, 60, 61] (by decide +kernel) (by decide +kernel)
set_option maxRecDepth 20000 in
theorem gX9_mark_X7_setMark : GoodIn wsX9_mark (wsV RX9 171 RX7 yX7_setMark wsX7_setMark) := goodIn_app (goodIn_of _ (by decide +kernel)) ggX9_mark_X7_setMark
theorem dX9_mark_0 : decode cX9_mark 0 = .ok (.iload_n 1, 1) := by decide +kernel
theorem dX9_mark_1 : decode cX9_mark 1 = .ok (.invokestatic 124, 3) := by decide +kernel
theorem dX9_mark_4 : decode cX9_mark 4 = .ok (.aload_n 0, 1) := by decide +kernel
theorem dX9_mark_5 : decode cX9_mark 5 = .ok (.iload_n 1, 1) := by decide +kernel
theorem dX9_mark_6 : decode cX9_mark 6 = .ok (.invokevirtual 135, 3) := by decide +kernel
theorem dX9_mark_9 : decode cX9_mark 9 = .ok (.aload_n 0, 1) := by decide +kernel
theorem dX9_mark_10 : decode cX9_mark 10 = .ok (.getfield 42, 3) := by decide +kernel
theorem dX9_mark_13 : decode cX9_mark 13 = .ok (.iload_n 1, 1) := by decide +kernel
theorem dX9_mark_14 : decode cX9_mark 14 = .ok (.aaload, 1) := by decide +kernel
theorem dX9_mark_15 : decode cX9_mark 15 = .ok (.getfield 166, 3) := by decide +kernel
theorem dX9_mark_18 : decode cX9_mark 18 = .ok (.iconst 3, 1) := by decide +kernel
theorem dX9_mark_19 : decode cX9_mark 19 = .ok (.if_icmp .lt 13, 3) := by decide +kernel
theorem dX9_mark_22 : decode cX9_mark 22 = .ok (.new 117, 3) := by decide +kernel
theorem dX9_mark_25 : decode cX9_mark 25 = .ok (.dup, 1) := by decide +kernel
theorem dX9_mark_26 : decode cX9_mark 26 = .ok (.ldc 169, 2) := by decide +kernel
theorem dX9_mark_28 : decode cX9_mark 28 = .ok (.invokespecial 121, 3) := by decide +kernel
theorem dX9_mark_31 : decode cX9_mark 31 = .ok (.athrow, 1) := by decide +kernel
theorem dX9_mark_32 : decode cX9_mark 32 = .ok (.aload_n 0, 1) := by decide +kernel
theorem dX9_mark_33 : decode cX9_mark 33 = .ok (.getfield 42, 3) := by decide +kernel
theorem dX9_mark_36 : decode cX9_mark 36 = .ok (.iload_n 1, 1) := by decide +kernel
theorem dX9_mark_37 : decode cX9_mark 37 = .ok (.aaload, 1) := by decide +kernel
theorem dX9_mark_38 : decode cX9_mark 38 = .ok (.invokevirtual 171, 3) := by decide +kernel
theorem dX9_mark_41 : decode cX9_mark 41 = .ok (.ireturn, 1) := by decide +kernel
set_option maxRecDepth 20000 in
theorem ggX9_goBack_X9_requireSlot : GoodIn wsX9_goBack wsX9_requireSlot := goodIn_ca (goodIn_r _ [9, 10, 11, 8, 12, 13, 14] (by decide +kernel) (by decide +kernel)) (goodIn_sub (fun _ h => List.mem_cons_of_mem _ (List.mem_append_left _ (List.mem_append_right _ h))) (by decide +kernel))
set_option maxRecDepth 20000 in
theorem gX9_goBack_X9_requireSlot : GoodIn wsX9_goBack (va_wsS RX9 124 yX9_requireSlot wsX9_requireSlot) := goodIn_app (goodIn_of _ (by decide +kernel)) ggX9_goBack_X9_requireSlot
set_option maxRecDepth 20000 in
theorem ggX9_goBack_X9_requireActive : GoodIn wsX9_goBack wsX9_requireActive := goodIn_ca (goodIn_r _ [18, 19, 20, 3, 21, 53, 54, 55, 56, 57, 58, 59, 60, 61, 62, 63, 64, 65, 66, 67, 68, 69, 70, 71, 72] (by decide +kernel) (by decide +kernel)) (goodIn_sub (fun _ h => List.mem_cons_of_mem _ (List.mem_append_right _ h)) (by decide +kernel))
set_option maxRecDepth 20000 in
theorem gX9_goBack_X9_requireActive : GoodIn wsX9_goBack (wsV RX9 135 RX9 yX9_requireActive wsX9_requireActive) := goodIn_app (goodIn_of _ (by decide +kernel)) ggX9_goBack_X9_requireActive
set_option maxRecDepth 20000 in
theorem ggX9_goBack_X7_takeMark : GoodIn wsX9_goBack wsX7_takeMark := goodIn_r _ [26, 27, 28, 29, 30, 31, 32, 33, 34, 35, 36, 37, 38, 39, 40, 41, 69, 70, 71, 72, 73, 74, 75] (by decide +kernel) (by decide +kernel)
set_option maxRecDepth 20000 in
theorem gX9_goBack_X7_takeMark : GoodIn wsX9_goBack (wsV RX9 179 RX7 yX7_takeMark wsX7_takeMark) := goodIn_app (goodIn_of _ (by decide +kernel)) ggX9_goBack_X7_takeMark
set_option maxRecDepth 20000 in
theorem ggX9_goBack_X0_count : GoodIn wsX9_goBack wsX0_count := goodIn_r _ [45, 40, 46, 47, 48, 49, 50, 51, 52, 73, 74, 75] (by decide +kernel) (by decide +kernel)
set_option maxRecDepth 20000 in
theorem gX9_goBack_X0_count : GoodIn wsX9_goBack (wsV RX9 162 RX0 yX0_count wsX0_count) := goodIn_app (goodIn_of _ (by decide +kernel)) ggX9_goBack_X0_count
theorem dX9_goBack_0 : decode cX9_goBack 0 = .ok (.iload_n 1, 1) := by decide +kernel
theorem dX9_goBack_1 : decode cX9_goBack 1 = .ok (.invokestatic 124, 3) := by decide +kernel
theorem dX9_goBack_4 : decode cX9_goBack 4 = .ok (.aload_n 0, 1) := by decide +kernel
theorem dX9_goBack_5 : decode cX9_goBack 5 = .ok (.iload_n 1, 1) := by decide +kernel
theorem dX9_goBack_6 : decode cX9_goBack 6 = .ok (.invokevirtual 135, 3) := by decide +kernel
theorem dX9_goBack_9 : decode cX9_goBack 9 = .ok (.aload_n 0, 1) := by decide +kernel
theorem dX9_goBack_10 : decode cX9_goBack 10 = .ok (.getfield 42, 3) := by decide +kernel
theorem dX9_goBack_13 : decode cX9_goBack 13 = .ok (.iload_n 1, 1) := by decide +kernel
theorem dX9_goBack_14 : decode cX9_goBack 14 = .ok (.aaload, 1) := by decide +kernel
theorem dX9_goBack_15 : decode cX9_goBack 15 = .ok (.getfield 166, 3) := by decide +kernel
theorem dX9_goBack_18 : decode cX9_goBack 18 = .ok (.ifCond .gt 13, 3) := by decide +kernel
theorem dX9_goBack_21 : decode cX9_goBack 21 = .ok (.new 174, 3) := by decide +kernel
theorem dX9_goBack_24 : decode cX9_goBack 24 = .ok (.dup, 1) := by decide +kernel
theorem dX9_goBack_25 : decode cX9_goBack 25 = .ok (.ldc 176, 2) := by decide +kernel
theorem dX9_goBack_27 : decode cX9_goBack 27 = .ok (.invokespecial 178, 3) := by decide +kernel
theorem dX9_goBack_30 : decode cX9_goBack 30 = .ok (.athrow, 1) := by decide +kernel
theorem dX9_goBack_31 : decode cX9_goBack 31 = .ok (.aload_n 0, 1) := by decide +kernel
theorem dX9_goBack_32 : decode cX9_goBack 32 = .ok (.getfield 42, 3) := by decide +kernel
theorem dX9_goBack_35 : decode cX9_goBack 35 = .ok (.iload_n 1, 1) := by decide +kernel
theorem dX9_goBack_36 : decode cX9_goBack 36 = .ok (.aaload, 1) := by decide +kernel
theorem dX9_goBack_37 : decode cX9_goBack 37 = .ok (.invokevirtual 179, 3) := by decide +kernel
theorem dX9_goBack_40 : decode cX9_goBack 40 = .ok (.aload_n 0, 1) := by decide +kernel
theorem dX9_goBack_41 : decode cX9_goBack 41 = .ok (.getfield 42, 3) := by decide +kernel
theorem dX9_goBack_44 : decode cX9_goBack 44 = .ok (.iload_n 1, 1) := by decide +kernel
theorem dX9_goBack_45 : decode cX9_goBack 45 = .ok (.aaload, 1) := by decide +kernel
theorem dX9_goBack_46 : decode cX9_goBack 46 = .ok (.getfield 142, 3) := by decide +kernel
theorem dX9_goBack_49 : decode cX9_goBack 49 = .ok (.invokevirtual 162, 3) := by decide +kernel
theorem dX9_goBack_52 : decode cX9_goBack 52 = .ok (.ireturn, 1) := by decide +kernel
set_option maxRecDepth 20000 in
theorem ggX9_ready_X9_requireSlot : GoodIn wsX9_ready wsX9_requireSlot := goodIn_ca (goodIn_r _ [9, 10, 11, 8, 12, 13, 14] (by decide +kernel) (by decide +kernel)) (goodIn_sub (fun _ h => List.mem_cons_of_mem _ (List.mem_append_left _ (List.mem_append_right _ h))) (by decide +kernel))
set_option maxRecDepth 20000 in
theorem gX9_ready_X9_requireSlot : GoodIn wsX9_ready (va_wsS RX9 124 yX9_requireSlot wsX9_requireSlot) := goodIn_app (goodIn_of _ (by decide +kernel)) ggX9_ready_X9_requireSlot
set_option maxRecDepth 20000 in
theorem ggX9_ready_X9_requireActive : GoodIn wsX9_ready wsX9_requireActive := goodIn_ca (goodIn_r _ [18, 19, 20, 1, 2, 21, 22, 23, 24, 25, 26, 27, 28, 29, 30, 31, 32, 33, 34, 35, 36, 37, 38, 39, 40] (by decide +kernel) (by decide +kernel)) (goodIn_sub (fun _ h => List.mem_cons_of_mem _ (List.mem_append_right _ h)) (by decide +kernel))
set_option maxRecDepth 20000 in
theorem gX9_ready_X9_requireActive : GoodIn wsX9_ready (wsV RX9 135 RX9 yX9_requireActive wsX9_requireActive) := goodIn_app (goodIn_of _ (by decide +kernel)) ggX9_ready_X9_requireActive
theorem dX9_ready_0 : decode cX9_ready 0 = .ok (.iload_n 1, 1) := by decide +kernel
theorem dX9_ready_1 : decode cX9_ready 1 = .ok (.invokestatic 124, 3) := by decide +kernel
theorem dX9_ready_4 : decode cX9_ready 4 = .ok (.aload_n 0, 1) := by decide +kernel
theorem dX9_ready_5 : decode cX9_ready 5 = .ok (.iload_n 1, 1) := by decide +kernel
theorem dX9_ready_6 : decode cX9_ready 6 = .ok (.invokevirtual 135, 3) := by decide +kernel
theorem dX9_ready_9 : decode cX9_ready 9 = .ok (.aload_n 0, 1) := by decide +kernel
theorem dX9_ready_10 : decode cX9_ready 10 = .ok (.getfield 42, 3) := by decide +kernel
theorem dX9_ready_13 : decode cX9_ready 13 = .ok (.iload_n 1, 1) := by decide +kernel
theorem dX9_ready_14 : decode cX9_ready 14 = .ok (.aaload, 1) := by decide +kernel
theorem dX9_ready_15 : decode cX9_ready 15 = .ok (.iconst 2, 1) := by decide +kernel
theorem dX9_ready_16 : decode cX9_ready 16 = .ok (.putfield 110, 3) := by decide +kernel
theorem dX9_ready_19 : decode cX9_ready 19 = .ok (.aload_n 0, 1) := by decide +kernel
theorem dX9_ready_20 : decode cX9_ready 20 = .ok (.getfield 42, 3) := by decide +kernel
theorem dX9_ready_23 : decode cX9_ready 23 = .ok (.iload_n 1, 1) := by decide +kernel
theorem dX9_ready_24 : decode cX9_ready 24 = .ok (.aaload, 1) := by decide +kernel
theorem dX9_ready_25 : decode cX9_ready 25 = .ok (.iconst 0, 1) := by decide +kernel
theorem dX9_ready_26 : decode cX9_ready 26 = .ok (.putfield 166, 3) := by decide +kernel
theorem dX9_ready_29 : decode cX9_ready 29 = .ok (.aload_n 0, 1) := by decide +kernel
theorem dX9_ready_30 : decode cX9_ready 30 = .ok (.getfield 50, 3) := by decide +kernel
theorem dX9_ready_33 : decode cX9_ready 33 = .ok (.iconst 3, 1) := by decide +kernel
theorem dX9_ready_34 : decode cX9_ready 34 = .ok (.if_icmp .ge 23, 3) := by decide +kernel
theorem dX9_ready_37 : decode cX9_ready 37 = .ok (.aload_n 0, 1) := by decide +kernel
theorem dX9_ready_38 : decode cX9_ready 38 = .ok (.getfield 46, 3) := by decide +kernel
theorem dX9_ready_41 : decode cX9_ready 41 = .ok (.aload_n 0, 1) := by decide +kernel
theorem dX9_ready_42 : decode cX9_ready 42 = .ok (.getfield 50, 3) := by decide +kernel
theorem dX9_ready_45 : decode cX9_ready 45 = .ok (.iload_n 1, 1) := by decide +kernel
theorem dX9_ready_46 : decode cX9_ready 46 = .ok (.iastore, 1) := by decide +kernel
theorem dX9_ready_47 : decode cX9_ready 47 = .ok (.aload_n 0, 1) := by decide +kernel
theorem dX9_ready_48 : decode cX9_ready 48 = .ok (.dup, 1) := by decide +kernel
theorem dX9_ready_49 : decode cX9_ready 49 = .ok (.getfield 50, 3) := by decide +kernel
theorem dX9_ready_52 : decode cX9_ready 52 = .ok (.iconst 1, 1) := by decide +kernel
theorem dX9_ready_53 : decode cX9_ready 53 = .ok (.iadd, 1) := by decide +kernel
theorem dX9_ready_54 : decode cX9_ready 54 = .ok (.putfield 50, 3) := by decide +kernel
theorem dX9_ready_57 : decode cX9_ready 57 = .ok (.aload_n 0, 1) := by decide +kernel
theorem dX9_ready_58 : decode cX9_ready 58 = .ok (.getfield 50, 3) := by decide +kernel
theorem dX9_ready_61 : decode cX9_ready 61 = .ok (.ireturn, 1) := by decide +kernel
set_option maxRecDepth 20000 in
theorem ggX9_abandon_X9_requireSlot : GoodIn wsX9_abandon wsX9_requireSlot := goodIn_ca (goodIn_r _ [6, 7, 8, 5, 9, 10, 11] (by decide +kernel) (by decide +kernel)) (goodIn_sub (fun _ h => List.mem_cons_of_mem _ (List.mem_append_left _ (List.mem_append_right _ h))) (by decide +kernel))
set_option maxRecDepth 20000 in
theorem gX9_abandon_X9_requireSlot : GoodIn wsX9_abandon (va_wsS RX9 124 yX9_requireSlot wsX9_requireSlot) := goodIn_app (goodIn_of _ (by decide +kernel)) ggX9_abandon_X9_requireSlot
set_option maxRecDepth 20000 in
theorem ggX9_abandon_X9_requireNotIdle : GoodIn wsX9_abandon wsX9_requireNotIdle := goodIn_ca (goodIn_r _ [15, 16, 17, 1, 18, 51, 52, 53, 54, 55, 56, 57, 58, 59, 60, 61, 62, 63, 64, 65, 66, 67, 68, 69, 70] (by decide +kernel) (by decide +kernel)) (goodIn_sub (fun _ h => List.mem_cons_of_mem _ (List.mem_append_right _ h)) (by decide +kernel))
set_option maxRecDepth 20000 in
theorem gX9_abandon_X9_requireNotIdle : GoodIn wsX9_abandon (wsV RX9 159 RX9 yX9_requireNotIdle wsX9_requireNotIdle) := goodIn_app (goodIn_of _ (by decide +kernel)) ggX9_abandon_X9_requireNotIdle
set_option maxRecDepth 20000 in
theorem ggX9_abandon_X0_count : GoodIn wsX9_abandon wsX0_count := goodIn_r _ [23, 24, 25, 26, 27, 28, 29, 30, 31, 71, 72, 73] (by decide +kernel) (by decide +kernel)
set_option maxRecDepth 20000 in
theorem gX9_abandon_X0_count : GoodIn wsX9_abandon (wsV RX9 162 RX0 yX0_count wsX0_count) := goodIn_app (goodIn_of _ (by decide +kernel)) ggX9_abandon_X0_count
set_option maxRecDepth 20000 in
theorem ggX9_abandon_X9_leaveReadyOrder : GoodIn wsX9_abandon wsX9_leaveReadyOrder := goodIn_r _ [35, 36, 37, 51, 52, 53, 54, 55, 56, 57, 58, 59, 60, 61, 62, 63, 64, 65, 66] (by decide +kernel) (by decide +kernel)
set_option maxRecDepth 20000 in
theorem gX9_abandon_X9_leaveReadyOrder : GoodIn wsX9_abandon (wsV RX9 182 RX9 yX9_leaveReadyOrder wsX9_leaveReadyOrder) := goodIn_app (goodIn_of _ (by decide +kernel)) ggX9_abandon_X9_leaveReadyOrder
set_option maxRecDepth 20000 in
theorem ggX9_abandon_X7_reset : GoodIn wsX9_abandon wsX7_reset := goodIn_r _ [42, 43, 44, 45, 46, 47, 48, 22, 49, 24, 50, 67, 68, 69, 70, 71, 72, 73] (by decide +kernel) (by decide +kernel)
set_option maxRecDepth 20000 in
theorem gX9_abandon_X7_reset : GoodIn wsX9_abandon (wsV RX9 113 RX7 yX7_reset wsX7_reset) := goodIn_app (goodIn_of _ (by decide +kernel)) ggX9_abandon_X7_reset
theorem dX9_abandon_0 : decode cX9_abandon 0 = .ok (.iload_n 1, 1) := by decide +kernel
theorem dX9_abandon_1 : decode cX9_abandon 1 = .ok (.invokestatic 124, 3) := by decide +kernel
theorem dX9_abandon_4 : decode cX9_abandon 4 = .ok (.aload_n 0, 1) := by decide +kernel
theorem dX9_abandon_5 : decode cX9_abandon 5 = .ok (.iload_n 1, 1) := by decide +kernel
theorem dX9_abandon_6 : decode cX9_abandon 6 = .ok (.invokevirtual 159, 3) := by decide +kernel
theorem dX9_abandon_9 : decode cX9_abandon 9 = .ok (.aload_n 0, 1) := by decide +kernel
theorem dX9_abandon_10 : decode cX9_abandon 10 = .ok (.getfield 42, 3) := by decide +kernel
theorem dX9_abandon_13 : decode cX9_abandon 13 = .ok (.iload_n 1, 1) := by decide +kernel
theorem dX9_abandon_14 : decode cX9_abandon 14 = .ok (.aaload, 1) := by decide +kernel
theorem dX9_abandon_15 : decode cX9_abandon 15 = .ok (.getfield 142, 3) := by decide +kernel
theorem dX9_abandon_18 : decode cX9_abandon 18 = .ok (.invokevirtual 162, 3) := by decide +kernel
theorem dX9_abandon_21 : decode cX9_abandon 21 = .ok (.istore_n 2, 1) := by decide +kernel
theorem dX9_abandon_22 : decode cX9_abandon 22 = .ok (.aload_n 0, 1) := by decide +kernel
theorem dX9_abandon_23 : decode cX9_abandon 23 = .ok (.iload_n 1, 1) := by decide +kernel
theorem dX9_abandon_24 : decode cX9_abandon 24 = .ok (.invokevirtual 182, 3) := by decide +kernel
theorem dX9_abandon_27 : decode cX9_abandon 27 = .ok (.aload_n 0, 1) := by decide +kernel
theorem dX9_abandon_28 : decode cX9_abandon 28 = .ok (.getfield 42, 3) := by decide +kernel
theorem dX9_abandon_31 : decode cX9_abandon 31 = .ok (.iload_n 1, 1) := by decide +kernel
theorem dX9_abandon_32 : decode cX9_abandon 32 = .ok (.aaload, 1) := by decide +kernel
theorem dX9_abandon_33 : decode cX9_abandon 33 = .ok (.iconst 0, 1) := by decide +kernel
theorem dX9_abandon_34 : decode cX9_abandon 34 = .ok (.invokevirtual 113, 3) := by decide +kernel
theorem dX9_abandon_37 : decode cX9_abandon 37 = .ok (.iload_n 2, 1) := by decide +kernel
theorem dX9_abandon_38 : decode cX9_abandon 38 = .ok (.ireturn, 1) := by decide +kernel
set_option maxRecDepth 20000 in
theorem ggX9_feed_X2_append : GoodIn wsX9_feed wsX2_append := goodIn_r _ [9, 10, 11, 28, 29, 30, 31, 32, 33, 34] (by decide +kernel) (by decide +kernel)
set_option maxRecDepth 20000 in
theorem gX9_feed_X2_append : GoodIn wsX9_feed (wsV RX9 190 RX2 yX2_append wsX2_append) := goodIn_app (goodIn_of _ (by decide +kernel)) ggX9_feed_X2_append
theorem dX9_feed_0 : decode cX9_feed 0 = .ok (.aload_n 0, 1) := by decide +kernel
theorem dX9_feed_1 : decode cX9_feed 1 = .ok (.getfield 65, 3) := by decide +kernel
theorem dX9_feed_4 : decode cX9_feed 4 = .ok (.getfield 185, 3) := by decide +kernel
theorem dX9_feed_7 : decode cX9_feed 7 = .ok (.bipush 60, 2) := by decide +kernel
theorem dX9_feed_9 : decode cX9_feed 9 = .ok (.if_icmp .lt 13, 3) := by decide +kernel
theorem dX9_feed_12 : decode cX9_feed 12 = .ok (.new 117, 3) := by decide +kernel
theorem dX9_feed_15 : decode cX9_feed 15 = .ok (.dup, 1) := by decide +kernel
theorem dX9_feed_16 : decode cX9_feed 16 = .ok (.ldc 188, 2) := by decide +kernel
theorem dX9_feed_18 : decode cX9_feed 18 = .ok (.invokespecial 121, 3) := by decide +kernel
theorem dX9_feed_21 : decode cX9_feed 21 = .ok (.athrow, 1) := by decide +kernel
theorem dX9_feed_22 : decode cX9_feed 22 = .ok (.aload_n 0, 1) := by decide +kernel
theorem dX9_feed_23 : decode cX9_feed 23 = .ok (.getfield 65, 3) := by decide +kernel
theorem dX9_feed_26 : decode cX9_feed 26 = .ok (.iload_n 1, 1) := by decide +kernel
theorem dX9_feed_27 : decode cX9_feed 27 = .ok (.invokevirtual 190, 3) := by decide +kernel
theorem dX9_feed_30 : decode cX9_feed 30 = .ok (.aload_n 0, 1) := by decide +kernel
theorem dX9_feed_31 : decode cX9_feed 31 = .ok (.getfield 65, 3) := by decide +kernel
theorem dX9_feed_34 : decode cX9_feed 34 = .ok (.getfield 185, 3) := by decide +kernel
theorem dX9_feed_37 : decode cX9_feed 37 = .ok (.ireturn, 1) := by decide +kernel
set_option maxRecDepth 20000 in
theorem ggX9_readChanges_X2_parse : GoodIn wsX9_readChanges wsX2_parse := goodIn_r _ [10, 11, 12, 13, 14, 15, 9, 16, 17, 18, 19, 20, 21, 22, 23, 24, 25, 26, 27, 28, 29, 30, 31, 32, 33, 34, 35, 36, 37, 89, 90, 91, 92, 93, 94, 95] (by decide +kernel) (by decide +kernel)
set_option maxRecDepth 20000 in
theorem gX9_readChanges_X2_parse : GoodIn wsX9_readChanges (wsV RX9 194 RX2 yX2_parse wsX2_parse) := goodIn_app (goodIn_of _ (by decide +kernel)) ggX9_readChanges_X2_parse
set_option maxRecDepth 20000 in
theorem ggX9_readChanges_X9_requireSlot : GoodIn wsX9_readChanges wsX9_requireSlot := goodIn_ca (goodIn_r _ [41, 42, 43, 40, 44, 45, 46] (by decide +kernel) (by decide +kernel)) (goodIn_sub (fun _ h => List.mem_cons_of_mem _ (List.mem_append_left _ (List.mem_append_right _ h))) (by decide +kernel))
set_option maxRecDepth 20000 in
theorem gX9_readChanges_X9_requireSlot : GoodIn wsX9_readChanges (va_wsS RX9 124 yX9_requireSlot wsX9_requireSlot) := goodIn_app (goodIn_of _ (by decide +kernel)) ggX9_readChanges_X9_requireSlot
set_option maxRecDepth 20000 in
theorem ggX9_readChanges_X9_requireActive : GoodIn wsX9_readChanges wsX9_requireActive := goodIn_ca (goodIn_r _ [50, 51, 52, 3, 53, 73, 74, 75, 76, 77, 78, 79, 80, 81, 82, 83, 84, 85, 86, 87, 88, 96, 97, 98, 99] (by decide +kernel) (by decide +kernel)) (goodIn_sub (fun _ h => List.mem_cons_of_mem _ (List.mem_append_right _ h)) (by decide +kernel))
set_option maxRecDepth 20000 in
theorem gX9_readChanges_X9_requireActive : GoodIn wsX9_readChanges (wsV RX9 135 RX9 yX9_requireActive wsX9_requireActive) := goodIn_app (goodIn_of _ (by decide +kernel)) ggX9_readChanges_X9_requireActive
set_option maxRecDepth 20000 in
theorem ggX9_readChanges_X2_enter : GoodIn wsX9_readChanges wsX2_enter := goodIn_r _ [57, 11, 33, 30, 32, 58, 59, 60, 61, 62, 63, 64, 65, 40, 66, 67, 68, 69, 70, 71, 72, 89, 90, 91, 92, 93, 94, 95, 100, 101, 102] (by decide +kernel) (by decide +kernel)
set_option maxRecDepth 20000 in
theorem gX9_readChanges_X2_enter : GoodIn wsX9_readChanges (wsV RX9 197 RX2 yX2_enter wsX2_enter) := goodIn_app (goodIn_of _ (by decide +kernel)) ggX9_readChanges_X2_enter
theorem dX9_readChanges_0 : decode cX9_readChanges 0 = .ok (.aload_n 0, 1) := by decide +kernel
theorem dX9_readChanges_1 : decode cX9_readChanges 1 = .ok (.getfield 65, 3) := by decide +kernel
theorem dX9_readChanges_4 : decode cX9_readChanges 4 = .ok (.invokevirtual 194, 3) := by decide +kernel
theorem dX9_readChanges_7 : decode cX9_readChanges 7 = .ok (.istore_n 2, 1) := by decide +kernel
theorem dX9_readChanges_8 : decode cX9_readChanges 8 = .ok (.aload_n 0, 1) := by decide +kernel
theorem dX9_readChanges_9 : decode cX9_readChanges 9 = .ok (.getfield 65, 3) := by decide +kernel
theorem dX9_readChanges_12 : decode cX9_readChanges 12 = .ok (.iconst 0, 1) := by decide +kernel
theorem dX9_readChanges_13 : decode cX9_readChanges 13 = .ok (.putfield 185, 3) := by decide +kernel
theorem dX9_readChanges_16 : decode cX9_readChanges 16 = .ok (.iload_n 1, 1) := by decide +kernel
theorem dX9_readChanges_17 : decode cX9_readChanges 17 = .ok (.invokestatic 124, 3) := by decide +kernel
theorem dX9_readChanges_20 : decode cX9_readChanges 20 = .ok (.aload_n 0, 1) := by decide +kernel
theorem dX9_readChanges_21 : decode cX9_readChanges 21 = .ok (.iload_n 1, 1) := by decide +kernel
theorem dX9_readChanges_22 : decode cX9_readChanges 22 = .ok (.invokevirtual 135, 3) := by decide +kernel
theorem dX9_readChanges_25 : decode cX9_readChanges 25 = .ok (.iload_n 2, 1) := by decide +kernel
theorem dX9_readChanges_26 : decode cX9_readChanges 26 = .ok (.iconst (-1), 1) := by decide +kernel
theorem dX9_readChanges_27 : decode cX9_readChanges 27 = .ok (.if_icmp .eq 8, 3) := by decide +kernel
theorem dX9_readChanges_30 : decode cX9_readChanges 30 = .ok (.bipush (-100), 2) := by decide +kernel
theorem dX9_readChanges_32 : decode cX9_readChanges 32 = .ok (.iload_n 2, 1) := by decide +kernel
theorem dX9_readChanges_33 : decode cX9_readChanges 33 = .ok (.isub, 1) := by decide +kernel
theorem dX9_readChanges_34 : decode cX9_readChanges 34 = .ok (.ireturn, 1) := by decide +kernel
theorem dX9_readChanges_35 : decode cX9_readChanges 35 = .ok (.aload_n 0, 1) := by decide +kernel
theorem dX9_readChanges_36 : decode cX9_readChanges 36 = .ok (.getfield 65, 3) := by decide +kernel
theorem dX9_readChanges_39 : decode cX9_readChanges 39 = .ok (.aload_n 0, 1) := by decide +kernel
theorem dX9_readChanges_40 : decode cX9_readChanges 40 = .ok (.getfield 42, 3) := by decide +kernel
theorem dX9_readChanges_43 : decode cX9_readChanges 43 = .ok (.iload_n 1, 1) := by decide +kernel
theorem dX9_readChanges_44 : decode cX9_readChanges 44 = .ok (.aaload, 1) := by decide +kernel
theorem dX9_readChanges_45 : decode cX9_readChanges 45 = .ok (.getfield 142, 3) := by decide +kernel
theorem dX9_readChanges_48 : decode cX9_readChanges 48 = .ok (.invokevirtual 197, 3) := by decide +kernel
theorem dX9_readChanges_51 : decode cX9_readChanges 51 = .ok (.aload_n 0, 1) := by decide +kernel
theorem dX9_readChanges_52 : decode cX9_readChanges 52 = .ok (.getfield 65, 3) := by decide +kernel
theorem dX9_readChanges_55 : decode cX9_readChanges 55 = .ok (.getfield 201, 3) := by decide +kernel
theorem dX9_readChanges_58 : decode cX9_readChanges 58 = .ok (.ireturn, 1) := by decide +kernel
set_option maxRecDepth 20000 in
theorem ggX9_writeChanges_X9_requireSlot : GoodIn wsX9_writeChanges wsX9_requireSlot := goodIn_ca (goodIn_r _ [11, 12, 13, 10, 14, 15, 16] (by decide +kernel) (by decide +kernel)) (goodIn_sub (fun _ h => List.mem_cons_of_mem _ (List.mem_append_left _ (List.mem_append_right _ h))) (by decide +kernel))
set_option maxRecDepth 20000 in
theorem gX9_writeChanges_X9_requireSlot : GoodIn wsX9_writeChanges (va_wsS RX9 124 yX9_requireSlot wsX9_requireSlot) := goodIn_app (goodIn_of _ (by decide +kernel)) ggX9_writeChanges_X9_requireSlot
set_option maxRecDepth 20000 in
theorem ggX9_writeChanges_X9_requireNotIdle : GoodIn wsX9_writeChanges wsX9_requireNotIdle := goodIn_ca (goodIn_r _ [20, 21, 22, 1, 23, 53, 54, 55, 56, 57, 58, 59, 60, 61, 62, 63, 64, 65, 66, 67, 68, 69, 70, 71, 72] (by decide +kernel) (by decide +kernel)) (goodIn_sub (fun _ h => List.mem_cons_of_mem _ (List.mem_append_right _ h)) (by decide +kernel))
set_option maxRecDepth 20000 in
theorem gX9_writeChanges_X9_requireNotIdle : GoodIn wsX9_writeChanges (wsV RX9 159 RX9 yX9_requireNotIdle wsX9_requireNotIdle) := goodIn_app (goodIn_of _ (by decide +kernel)) ggX9_writeChanges_X9_requireNotIdle
set_option maxRecDepth 20000 in
theorem ggX9_writeChanges_X9_isIn : GoodIn wsX9_writeChanges wsX9_isIn := goodIn_r _ [26] (by decide +kernel) (by decide +kernel)
set_option maxRecDepth 20000 in
theorem gX9_writeChanges_X9_isIn : GoodIn wsX9_writeChanges (va_wsS RX9 209 yX9_isIn wsX9_isIn) := goodIn_app (goodIn_of _ (by decide +kernel)) ggX9_writeChanges_X9_isIn
set_option maxRecDepth 20000 in
theorem ggX9_writeChanges_X4_appendRemoval : GoodIn wsX9_writeChanges wsX4_appendRemoval := goodIn_r _ [31, 32, 33, 34, 30, 35, 36, 37, 38, 39, 40, 41, 42, 43, 44, 45, 46, 47, 48, 73, 74, 75] (by decide +kernel) (by decide +kernel)
set_option maxRecDepth 20000 in
theorem gX9_writeChanges_X4_appendRemoval : GoodIn wsX9_writeChanges (wsV RX9 213 RX4 yX4_appendRemoval wsX4_appendRemoval) := goodIn_app (goodIn_of _ (by decide +kernel)) ggX9_writeChanges_X4_appendRemoval
set_option maxRecDepth 20000 in
theorem ggX9_writeChanges_X4_appendRecord : GoodIn wsX9_writeChanges wsX4_appendRecord := goodIn_r _ [52, 32, 33, 34, 30, 35, 36, 37, 38, 39, 40, 41, 42, 43, 44, 45, 46, 47, 48, 73, 74, 75] (by decide +kernel) (by decide +kernel)
set_option maxRecDepth 20000 in
theorem gX9_writeChanges_X4_appendRecord : GoodIn wsX9_writeChanges (wsV RX9 222 RX4 yX4_appendRecord wsX4_appendRecord) := goodIn_app (goodIn_of _ (by decide +kernel)) ggX9_writeChanges_X4_appendRecord
theorem dX9_writeChanges_0 : decode cX9_writeChanges 0 = .ok (.iload_n 1, 1) := by decide +kernel
theorem dX9_writeChanges_1 : decode cX9_writeChanges 1 = .ok (.invokestatic 124, 3) := by decide +kernel
theorem dX9_writeChanges_4 : decode cX9_writeChanges 4 = .ok (.aload_n 0, 1) := by decide +kernel
theorem dX9_writeChanges_5 : decode cX9_writeChanges 5 = .ok (.iload_n 1, 1) := by decide +kernel
theorem dX9_writeChanges_6 : decode cX9_writeChanges 6 = .ok (.invokevirtual 159, 3) := by decide +kernel
theorem dX9_writeChanges_9 : decode cX9_writeChanges 9 = .ok (.aload_n 0, 1) := by decide +kernel
theorem dX9_writeChanges_10 : decode cX9_writeChanges 10 = .ok (.getfield 42, 3) := by decide +kernel
theorem dX9_writeChanges_13 : decode cX9_writeChanges 13 = .ok (.iload_n 1, 1) := by decide +kernel
theorem dX9_writeChanges_14 : decode cX9_writeChanges 14 = .ok (.aaload, 1) := by decide +kernel
theorem dX9_writeChanges_15 : decode cX9_writeChanges 15 = .ok (.getfield 142, 3) := by decide +kernel
theorem dX9_writeChanges_18 : decode cX9_writeChanges 18 = .ok (.astore_n 2, 1) := by decide +kernel
theorem dX9_writeChanges_19 : decode cX9_writeChanges 19 = .ok (.aload_n 0, 1) := by decide +kernel
theorem dX9_writeChanges_20 : decode cX9_writeChanges 20 = .ok (.getfield 72, 3) := by decide +kernel
theorem dX9_writeChanges_23 : decode cX9_writeChanges 23 = .ok (.iconst 0, 1) := by decide +kernel
theorem dX9_writeChanges_24 : decode cX9_writeChanges 24 = .ok (.putfield 204, 3) := by decide +kernel
theorem dX9_writeChanges_27 : decode cX9_writeChanges 27 = .ok (.iconst 0, 1) := by decide +kernel
theorem dX9_writeChanges_28 : decode cX9_writeChanges 28 = .ok (.istore_n 3, 1) := by decide +kernel
theorem dX9_writeChanges_29 : decode cX9_writeChanges 29 = .ok (.iload_n 3, 1) := by decide +kernel
theorem dX9_writeChanges_30 : decode cX9_writeChanges 30 = .ok (.bipush 64, 2) := by decide +kernel
theorem dX9_writeChanges_32 : decode cX9_writeChanges 32 = .ok (.if_icmp .ge 56, 3) := by decide +kernel
theorem dX9_writeChanges_35 : decode cX9_writeChanges 35 = .ok (.aload_n 2, 1) := by decide +kernel
theorem dX9_writeChanges_36 : decode cX9_writeChanges 36 = .ok (.getfield 205, 3) := by decide +kernel
theorem dX9_writeChanges_39 : decode cX9_writeChanges 39 = .ok (.iload_n 3, 1) := by decide +kernel
theorem dX9_writeChanges_40 : decode cX9_writeChanges 40 = .ok (.invokestatic 209, 3) := by decide +kernel
theorem dX9_writeChanges_43 : decode cX9_writeChanges 43 = .ok (.ifCond .eq 14, 3) := by decide +kernel
theorem dX9_writeChanges_46 : decode cX9_writeChanges 46 = .ok (.aload_n 0, 1) := by decide +kernel
theorem dX9_writeChanges_47 : decode cX9_writeChanges 47 = .ok (.getfield 72, 3) := by decide +kernel
theorem dX9_writeChanges_50 : decode cX9_writeChanges 50 = .ok (.iload_n 3, 1) := by decide +kernel
theorem dX9_writeChanges_51 : decode cX9_writeChanges 51 = .ok (.invokevirtual 213, 3) := by decide +kernel
theorem dX9_writeChanges_54 : decode cX9_writeChanges 54 = .ok (.goto 28, 3) := by decide +kernel
theorem dX9_writeChanges_57 : decode cX9_writeChanges 57 = .ok (.aload_n 2, 1) := by decide +kernel
theorem dX9_writeChanges_58 : decode cX9_writeChanges 58 = .ok (.getfield 216, 3) := by decide +kernel
theorem dX9_writeChanges_61 : decode cX9_writeChanges 61 = .ok (.iload_n 3, 1) := by decide +kernel
theorem dX9_writeChanges_62 : decode cX9_writeChanges 62 = .ok (.invokestatic 209, 3) := by decide +kernel
theorem dX9_writeChanges_65 : decode cX9_writeChanges 65 = .ok (.ifCond .eq 17, 3) := by decide +kernel
theorem dX9_writeChanges_68 : decode cX9_writeChanges 68 = .ok (.aload_n 0, 1) := by decide +kernel
theorem dX9_writeChanges_69 : decode cX9_writeChanges 69 = .ok (.getfield 72, 3) := by decide +kernel
theorem dX9_writeChanges_72 : decode cX9_writeChanges 72 = .ok (.iload_n 3, 1) := by decide +kernel
theorem dX9_writeChanges_73 : decode cX9_writeChanges 73 = .ok (.aload_n 2, 1) := by decide +kernel
theorem dX9_writeChanges_74 : decode cX9_writeChanges 74 = .ok (.getfield 219, 3) := by decide +kernel
theorem dX9_writeChanges_77 : decode cX9_writeChanges 77 = .ok (.iload_n 3, 1) := by decide +kernel
theorem dX9_writeChanges_78 : decode cX9_writeChanges 78 = .ok (.iaload, 1) := by decide +kernel
theorem dX9_writeChanges_79 : decode cX9_writeChanges 79 = .ok (.invokevirtual 222, 3) := by decide +kernel
theorem dX9_writeChanges_82 : decode cX9_writeChanges 82 = .ok (.iinc 3 1, 3) := by decide +kernel
theorem dX9_writeChanges_85 : decode cX9_writeChanges 85 = .ok (.goto (-56), 3) := by decide +kernel
theorem dX9_writeChanges_88 : decode cX9_writeChanges 88 = .ok (.aload_n 0, 1) := by decide +kernel
theorem dX9_writeChanges_89 : decode cX9_writeChanges 89 = .ok (.getfield 72, 3) := by decide +kernel
theorem dX9_writeChanges_92 : decode cX9_writeChanges 92 = .ok (.getfield 204, 3) := by decide +kernel
theorem dX9_writeChanges_95 : decode cX9_writeChanges 95 = .ok (.ireturn, 1) := by decide +kernel
set_option maxRecDepth 20000 in
theorem ggX9_writeRecords_X9_requireOpen : GoodIn wsX9_writeRecords wsX9_requireOpen := goodIn_ca (goodIn_r _ [10, 11, 12, 13, 39, 40, 41, 42, 43, 44, 45, 46, 47, 48, 49, 50, 51, 52, 53, 54] (by decide +kernel) (by decide +kernel)) (goodIn_sub (fun _ h => List.mem_cons_of_mem _ (List.mem_append_right _ h)) (by decide +kernel))
set_option maxRecDepth 20000 in
theorem gX9_writeRecords_X9_requireOpen : GoodIn wsX9_writeRecords (wsV RX9 107 RX9 yX9_requireOpen wsX9_requireOpen) := goodIn_app (goodIn_of _ (by decide +kernel)) ggX9_writeRecords_X9_requireOpen
set_option maxRecDepth 20000 in
theorem ggX9_writeRecords_X9_isIn : GoodIn wsX9_writeRecords wsX9_isIn := goodIn_r _ [16] (by decide +kernel) (by decide +kernel)
set_option maxRecDepth 20000 in
theorem gX9_writeRecords_X9_isIn : GoodIn wsX9_writeRecords (va_wsS RX9 209 yX9_isIn wsX9_isIn) := goodIn_app (goodIn_of _ (by decide +kernel)) ggX9_writeRecords_X9_isIn
set_option maxRecDepth 20000 in
theorem ggX9_writeRecords_X4_appendRecord : GoodIn wsX9_writeRecords wsX4_appendRecord := goodIn_r _ [21, 22, 23, 24, 20, 25, 26, 27, 28, 29, 30, 31, 32, 33, 34, 35, 36, 37, 38, 55, 56, 57] (by decide +kernel) (by decide +kernel)
set_option maxRecDepth 20000 in
theorem gX9_writeRecords_X4_appendRecord : GoodIn wsX9_writeRecords (wsV RX9 222 RX4 yX4_appendRecord wsX4_appendRecord) := goodIn_app (goodIn_of _ (by decide +kernel)) ggX9_writeRecords_X4_appendRecord
theorem dX9_writeRecords_0 : decode cX9_writeRecords 0 = .ok (.aload_n 0, 1) := by decide +kernel
theorem dX9_writeRecords_1 : decode cX9_writeRecords 1 = .ok (.invokevirtual 107, 3) := by decide +kernel
theorem dX9_writeRecords_4 : decode cX9_writeRecords 4 = .ok (.aload_n 0, 1) := by decide +kernel
theorem dX9_writeRecords_5 : decode cX9_writeRecords 5 = .ok (.getfield 72, 3) := by decide +kernel
theorem dX9_writeRecords_8 : decode cX9_writeRecords 8 = .ok (.iconst 0, 1) := by decide +kernel
theorem dX9_writeRecords_9 : decode cX9_writeRecords 9 = .ok (.putfield 204, 3) := by decide +kernel
theorem dX9_writeRecords_12 : decode cX9_writeRecords 12 = .ok (.iconst 0, 1) := by decide +kernel
theorem dX9_writeRecords_13 : decode cX9_writeRecords 13 = .ok (.istore_n 1, 1) := by decide +kernel
theorem dX9_writeRecords_14 : decode cX9_writeRecords 14 = .ok (.iload_n 1, 1) := by decide +kernel
theorem dX9_writeRecords_15 : decode cX9_writeRecords 15 = .ok (.bipush 64, 2) := by decide +kernel
theorem dX9_writeRecords_17 : decode cX9_writeRecords 17 = .ok (.if_icmp .ge 40, 3) := by decide +kernel
theorem dX9_writeRecords_20 : decode cX9_writeRecords 20 = .ok (.aload_n 0, 1) := by decide +kernel
theorem dX9_writeRecords_21 : decode cX9_writeRecords 21 = .ok (.getfield 19, 3) := by decide +kernel
theorem dX9_writeRecords_24 : decode cX9_writeRecords 24 = .ok (.getfield 225, 3) := by decide +kernel
theorem dX9_writeRecords_27 : decode cX9_writeRecords 27 = .ok (.iload_n 1, 1) := by decide +kernel
theorem dX9_writeRecords_28 : decode cX9_writeRecords 28 = .ok (.invokestatic 209, 3) := by decide +kernel
theorem dX9_writeRecords_31 : decode cX9_writeRecords 31 = .ok (.ifCond .eq 20, 3) := by decide +kernel
theorem dX9_writeRecords_34 : decode cX9_writeRecords 34 = .ok (.aload_n 0, 1) := by decide +kernel
theorem dX9_writeRecords_35 : decode cX9_writeRecords 35 = .ok (.getfield 72, 3) := by decide +kernel
theorem dX9_writeRecords_38 : decode cX9_writeRecords 38 = .ok (.iload_n 1, 1) := by decide +kernel
theorem dX9_writeRecords_39 : decode cX9_writeRecords 39 = .ok (.aload_n 0, 1) := by decide +kernel
theorem dX9_writeRecords_40 : decode cX9_writeRecords 40 = .ok (.getfield 19, 3) := by decide +kernel
theorem dX9_writeRecords_43 : decode cX9_writeRecords 43 = .ok (.getfield 228, 3) := by decide +kernel
theorem dX9_writeRecords_46 : decode cX9_writeRecords 46 = .ok (.iload_n 1, 1) := by decide +kernel
theorem dX9_writeRecords_47 : decode cX9_writeRecords 47 = .ok (.iaload, 1) := by decide +kernel
theorem dX9_writeRecords_48 : decode cX9_writeRecords 48 = .ok (.invokevirtual 222, 3) := by decide +kernel
theorem dX9_writeRecords_51 : decode cX9_writeRecords 51 = .ok (.iinc 1 1, 3) := by decide +kernel
theorem dX9_writeRecords_54 : decode cX9_writeRecords 54 = .ok (.goto (-40), 3) := by decide +kernel
theorem dX9_writeRecords_57 : decode cX9_writeRecords 57 = .ok (.aload_n 0, 1) := by decide +kernel
theorem dX9_writeRecords_58 : decode cX9_writeRecords 58 = .ok (.getfield 72, 3) := by decide +kernel
theorem dX9_writeRecords_61 : decode cX9_writeRecords 61 = .ok (.getfield 204, 3) := by decide +kernel
theorem dX9_writeRecords_64 : decode cX9_writeRecords 64 = .ok (.ireturn, 1) := by decide +kernel
theorem dX9_outputAt_0 : decode cX9_outputAt 0 = .ok (.iload_n 1, 1) := by decide +kernel
theorem dX9_outputAt_1 : decode cX9_outputAt 1 = .ok (.ifCond .lt 14, 3) := by decide +kernel
theorem dX9_outputAt_4 : decode cX9_outputAt 4 = .ok (.iload_n 1, 1) := by decide +kernel
theorem dX9_outputAt_5 : decode cX9_outputAt 5 = .ok (.aload_n 0, 1) := by decide +kernel
theorem dX9_outputAt_6 : decode cX9_outputAt 6 = .ok (.getfield 72, 3) := by decide +kernel
theorem dX9_outputAt_9 : decode cX9_outputAt 9 = .ok (.getfield 204, 3) := by decide +kernel
theorem dX9_outputAt_12 : decode cX9_outputAt 12 = .ok (.if_icmp .lt 13, 3) := by decide +kernel
theorem dX9_outputAt_15 : decode cX9_outputAt 15 = .ok (.new 229, 3) := by decide +kernel
theorem dX9_outputAt_18 : decode cX9_outputAt 18 = .ok (.dup, 1) := by decide +kernel
theorem dX9_outputAt_19 : decode cX9_outputAt 19 = .ok (.ldc 231, 2) := by decide +kernel
theorem dX9_outputAt_21 : decode cX9_outputAt 21 = .ok (.invokespecial 233, 3) := by decide +kernel
theorem dX9_outputAt_24 : decode cX9_outputAt 24 = .ok (.athrow, 1) := by decide +kernel
theorem dX9_outputAt_25 : decode cX9_outputAt 25 = .ok (.aload_n 0, 1) := by decide +kernel
theorem dX9_outputAt_26 : decode cX9_outputAt 26 = .ok (.getfield 72, 3) := by decide +kernel
theorem dX9_outputAt_29 : decode cX9_outputAt 29 = .ok (.getfield 234, 3) := by decide +kernel
theorem dX9_outputAt_32 : decode cX9_outputAt 32 = .ok (.iload_n 1, 1) := by decide +kernel
theorem dX9_outputAt_33 : decode cX9_outputAt 33 = .ok (.caload, 1) := by decide +kernel
theorem dX9_outputAt_34 : decode cX9_outputAt 34 = .ok (.ireturn, 1) := by decide +kernel
set_option maxRecDepth 20000 in
theorem ggX9_blocksToWrite_X9_prepareNext : GoodIn wsX9_blocksToWrite wsX9_prepareNext := goodIn_r _ [6, 7, 1, 8, 9, 10, 11, 12, 13, 14, 15, 16, 17, 18, 19, 20, 21, 22, 23, 24, 25, 26, 27, 5, 28, 29, 30, 31, 32, 33, 34, 35, 36, 37, 38, 39, 40, 41, 42, 43, 44, 45, 46, 47, 48, 49, 50, 51, 52, 53, 54, 55, 56, 57, 58, 59, 60, 61, 62, 83, 84, 85, 86, 87, 88, 89, 90, 91, 92, 93, 94, 95, 96, 97, 98, 99, 100, 101, 102, 103, 104, 105, 106, 107, 108, 109, 110, 111] (by decide +kernel) (by decide +kernel)
set_option maxRecDepth 20000 in
theorem gX9_blocksToWrite_X9_prepareNext : GoodIn wsX9_blocksToWrite (wsV RX9 238 RX9 yX9_prepareNext wsX9_prepareNext) := goodIn_app (goodIn_of _ (by decide +kernel)) ggX9_blocksToWrite_X9_prepareNext
set_option maxRecDepth 20000 in
theorem ggX9_blocksToWrite_X9_dataBlocksOfNext : GoodIn wsX9_blocksToWrite wsX9_dataBlocksOfNext := goodIn_r _ [66, 67, 68, 69, 5, 70, 7, 11, 71, 72, 73, 18, 74, 20, 75, 76, 43, 77, 27, 28, 78, 79, 80, 81, 51, 82, 83, 84, 85, 86, 87, 88, 89, 90, 91, 92, 93, 94, 95, 96, 97, 98, 109, 110, 111, 103, 104, 105, 106, 107, 108] (by decide +kernel) (by decide +kernel)
set_option maxRecDepth 20000 in
theorem gX9_blocksToWrite_X9_dataBlocksOfNext : GoodIn wsX9_blocksToWrite (wsV RX9 241 RX9 yX9_dataBlocksOfNext wsX9_dataBlocksOfNext) := goodIn_app (goodIn_of _ (by decide +kernel)) ggX9_blocksToWrite_X9_dataBlocksOfNext
theorem dX9_blocksToWrite_0 : decode cX9_blocksToWrite 0 = .ok (.aload_n 0, 1) := by decide +kernel
theorem dX9_blocksToWrite_1 : decode cX9_blocksToWrite 1 = .ok (.getfield 50, 3) := by decide +kernel
theorem dX9_blocksToWrite_4 : decode cX9_blocksToWrite 4 = .ok (.ifCond .ne 5, 3) := by decide +kernel
theorem dX9_blocksToWrite_7 : decode cX9_blocksToWrite 7 = .ok (.iconst 0, 1) := by decide +kernel
theorem dX9_blocksToWrite_8 : decode cX9_blocksToWrite 8 = .ok (.ireturn, 1) := by decide +kernel
theorem dX9_blocksToWrite_9 : decode cX9_blocksToWrite 9 = .ok (.aload_n 0, 1) := by decide +kernel
theorem dX9_blocksToWrite_10 : decode cX9_blocksToWrite 10 = .ok (.invokevirtual 238, 3) := by decide +kernel
theorem dX9_blocksToWrite_13 : decode cX9_blocksToWrite 13 = .ok (.aload_n 0, 1) := by decide +kernel
theorem dX9_blocksToWrite_14 : decode cX9_blocksToWrite 14 = .ok (.invokevirtual 241, 3) := by decide +kernel
theorem dX9_blocksToWrite_17 : decode cX9_blocksToWrite 17 = .ok (.iconst 1, 1) := by decide +kernel
theorem dX9_blocksToWrite_18 : decode cX9_blocksToWrite 18 = .ok (.iadd, 1) := by decide +kernel
theorem dX9_blocksToWrite_19 : decode cX9_blocksToWrite 19 = .ok (.ireturn, 1) := by decide +kernel
set_option maxRecDepth 20000 in
theorem ggX9_commit_X9_requireOpen : GoodIn wsX9_commit wsX9_requireOpen := goodIn_ca (goodIn_r _ [15, 3, 4, 16, 214, 215, 216, 217, 218, 219, 220, 221, 222, 223, 224, 225, 226, 227, 228, 229] (by decide +kernel) (by decide +kernel)) (goodIn_sub (fun _ h => List.mem_cons_of_mem _ (List.mem_append_left _ (List.mem_append_right _ h))) (by decide +kernel))
set_option maxRecDepth 20000 in
theorem gX9_commit_X9_requireOpen : GoodIn wsX9_commit (wsV RX9 107 RX9 yX9_requireOpen wsX9_requireOpen) := goodIn_app (goodIn_of _ (by decide +kernel)) ggX9_commit_X9_requireOpen
set_option maxRecDepth 20000 in
theorem ggX9_commit_X9_prepareNext : GoodIn wsX9_commit wsX9_prepareNext := goodIn_r _ [20, 21, 7, 22, 23, 24, 25, 8, 9, 26, 27, 28, 29, 30, 31, 32, 33, 34, 35, 36, 37, 38, 39, 14, 40, 41, 42, 43, 44, 45, 46, 47, 48, 49, 50, 51, 52, 53, 54, 55, 56, 57, 58, 59, 60, 61, 62, 63, 64, 65, 66, 67, 68, 69, 70, 71, 72, 73, 74, 214, 215, 216, 217, 218, 219, 220, 221, 222, 223, 224, 225, 226, 227, 228, 229, 236, 237, 238, 239, 230, 231, 232, 233, 234, 235, 240, 241, 242] (by decide +kernel) (by decide +kernel)
set_option maxRecDepth 20000 in
theorem gX9_commit_X9_prepareNext : GoodIn wsX9_commit (wsV RX9 238 RX9 yX9_prepareNext wsX9_prepareNext) := goodIn_app (goodIn_of _ (by decide +kernel)) ggX9_commit_X9_prepareNext
set_option maxRecDepth 20000 in
theorem ggX9_commit_X9_freeBlocks : GoodIn wsX9_commit wsX9_freeBlocks := goodIn_r _ [78, 8, 79, 80, 81, 82, 45, 14, 46, 83, 84, 85, 55, 86, 66, 57, 214, 215, 216, 217, 218, 219, 220, 221, 222, 223, 224, 225, 226, 227, 228, 229, 230, 231, 232, 233, 234, 235] (by decide +kernel) (by decide +kernel)
set_option maxRecDepth 20000 in
theorem gX9_commit_X9_freeBlocks : GoodIn wsX9_commit (wsV RX9 254 RX9 yX9_freeBlocks wsX9_freeBlocks) := goodIn_app (goodIn_of _ (by decide +kernel)) ggX9_commit_X9_freeBlocks
set_option maxRecDepth 20000 in
theorem ggX9_commit_J13_bitCount_95d88 : GoodIn wsX9_commit wsJ13_bitCount_95d88 := goodIn_r _ [90, 91, 92, 93] (by decide +kernel) (by decide +kernel)
set_option maxRecDepth 20000 in
theorem gX9_commit_J13_bitCount_95d88 : GoodIn wsX9_commit (va_wsS RX9 258 yJ13_bitCount_95d88 wsJ13_bitCount_95d88) := goodIn_app (goodIn_of _ (by decide +kernel)) ggX9_commit_J13_bitCount_95d88
set_option maxRecDepth 20000 in
theorem ggX9_commit_X9_dataBlocksOfNext : GoodIn wsX9_commit wsX9_dataBlocksOfNext := goodIn_r _ [97, 98, 99, 100, 14, 101, 21, 25, 102, 103, 104, 30, 105, 32, 106, 107, 55, 108, 39, 40, 109, 110, 111, 112, 63, 113, 214, 215, 216, 217, 218, 219, 220, 221, 222, 223, 224, 225, 226, 227, 228, 229, 240, 241, 242, 230, 231, 232, 233, 234, 235] (by decide +kernel) (by decide +kernel)
set_option maxRecDepth 20000 in
theorem gX9_commit_X9_dataBlocksOfNext : GoodIn wsX9_commit (wsV RX9 241 RX9 yX9_dataBlocksOfNext wsX9_dataBlocksOfNext) := goodIn_app (goodIn_of _ (by decide +kernel)) ggX9_commit_X9_dataBlocksOfNext
set_option maxRecDepth 20000 in
theorem ggX9_commit_X9_placeNext : GoodIn wsX9_commit wsX9_placeNext := goodIn_r _ [117, 25, 118, 21, 119, 75, 76, 77, 14, 78, 8, 79, 80, 81, 82, 45, 46, 83, 84, 85, 55, 86, 66, 57, 98, 99, 100, 101, 102, 103, 104, 30, 105, 32, 106, 107, 108, 39, 40, 109, 110, 111, 112, 63, 113, 120, 121, 122, 123, 214, 215, 216, 217, 218, 219, 220, 221, 222, 223, 224, 225, 226, 227, 228, 229, 230, 231, 232, 233, 234, 235, 240, 241, 242] (by decide +kernel) (by decide +kernel)
set_option maxRecDepth 20000 in
theorem gX9_commit_X9_placeNext : GoodIn wsX9_commit (wsV RX9 266 RX9 yX9_placeNext wsX9_placeNext) := goodIn_app (goodIn_of _ (by decide +kernel)) ggX9_commit_X9_placeNext
set_option maxRecDepth 20000 in
theorem ggX9_commit_X9_writeNext : GoodIn wsX9_commit wsX9_writeNext := goodIn_r _ [127, 128, 25, 129, 130, 118, 119, 26, 131, 132, 133, 134, 135, 136, 137, 138, 98, 99, 100, 14, 101, 21, 102, 103, 104, 30, 105, 32, 106, 107, 55, 108, 39, 40, 109, 110, 111, 112, 63, 113, 139, 140, 141, 142, 64, 62, 143, 144, 145, 146, 147, 148, 149, 150, 151, 152, 153, 154, 155, 156, 157, 158, 159, 59, 60, 61, 160, 161, 162, 163, 164, 165, 166, 167, 168, 169, 170, 171, 57, 58, 172, 173, 174, 175, 66, 214, 215, 216, 217, 218, 219, 220, 221, 222, 223, 224, 225, 226, 227, 228, 229, 243, 244, 230, 231, 232, 233, 234, 235, 245, 246, 247, 240, 241, 242] (by decide +kernel) (by decide +kernel)
set_option maxRecDepth 20000 in
theorem gX9_commit_X9_writeNext : GoodIn wsX9_commit (wsV RX9 269 RX9 yX9_writeNext wsX9_writeNext) := goodIn_app (goodIn_of _ (by decide +kernel)) ggX9_commit_X9_writeNext
set_option maxRecDepth 20000 in
theorem ggX9_commit_X9_endCommit : GoodIn wsX9_commit wsX9_endCommit := goodIn_r _ [179, 128, 180, 25, 9, 181, 7, 21, 182, 183, 16, 8, 184, 185, 186, 30, 187, 188, 103, 104, 105, 32, 106, 107, 55, 108, 39, 14, 40, 189, 190, 191, 192, 193, 194, 195, 59, 60, 61, 196, 197, 198, 199, 200, 22, 80, 201, 202, 203, 204, 205, 206, 207, 208, 209, 28, 29, 31, 33, 52, 53, 54, 56, 57, 58, 62, 63, 64, 65, 66, 210, 211, 212, 213, 23, 214, 215, 216, 217, 218, 219, 220, 221, 222, 223, 224, 225, 226, 227, 228, 229, 245, 246, 247, 230, 231, 232, 233, 234, 235, 240, 241, 242, 248, 249, 236, 237, 238, 239] (by decide +kernel) (by decide +kernel)
set_option maxRecDepth 20000 in
theorem gX9_commit_X9_endCommit : GoodIn wsX9_commit (wsV RX9 272 RX9 yX9_endCommit wsX9_endCommit) := goodIn_app (goodIn_of _ (by decide +kernel)) ggX9_commit_X9_endCommit
theorem dX9_commit_0 : decode cX9_commit 0 = .ok (.iload_n 1, 1) := by decide +kernel
theorem dX9_commit_1 : decode cX9_commit 1 = .ok (.iconst (-1), 1) := by decide +kernel
theorem dX9_commit_2 : decode cX9_commit 2 = .ok (.if_icmp .ge 13, 3) := by decide +kernel
theorem dX9_commit_5 : decode cX9_commit 5 = .ok (.new 130, 3) := by decide +kernel
theorem dX9_commit_8 : decode cX9_commit 8 = .ok (.dup, 1) := by decide +kernel
theorem dX9_commit_9 : decode cX9_commit 9 = .ok (.ldc 244, 2) := by decide +kernel
theorem dX9_commit_11 : decode cX9_commit 11 = .ok (.invokespecial 134, 3) := by decide +kernel
theorem dX9_commit_14 : decode cX9_commit 14 = .ok (.athrow, 1) := by decide +kernel
theorem dX9_commit_15 : decode cX9_commit 15 = .ok (.aload_n 0, 1) := by decide +kernel
theorem dX9_commit_16 : decode cX9_commit 16 = .ok (.invokevirtual 107, 3) := by decide +kernel
theorem dX9_commit_19 : decode cX9_commit 19 = .ok (.aload_n 0, 1) := by decide +kernel
theorem dX9_commit_20 : decode cX9_commit 20 = .ok (.getfield 50, 3) := by decide +kernel
theorem dX9_commit_23 : decode cX9_commit 23 = .ok (.ifCond .ne 13, 3) := by decide +kernel
theorem dX9_commit_26 : decode cX9_commit 26 = .ok (.new 117, 3) := by decide +kernel
theorem dX9_commit_29 : decode cX9_commit 29 = .ok (.dup, 1) := by decide +kernel
theorem dX9_commit_30 : decode cX9_commit 30 = .ok (.ldc 246, 2) := by decide +kernel
theorem dX9_commit_32 : decode cX9_commit 32 = .ok (.invokespecial 121, 3) := by decide +kernel
theorem dX9_commit_35 : decode cX9_commit 35 = .ok (.athrow, 1) := by decide +kernel
theorem dX9_commit_36 : decode cX9_commit 36 = .ok (.aload_n 0, 1) := by decide +kernel
theorem dX9_commit_37 : decode cX9_commit 37 = .ok (.getfield 19, 3) := by decide +kernel
theorem dX9_commit_40 : decode cX9_commit 40 = .ok (.getfield 101, 3) := by decide +kernel
theorem dX9_commit_43 : decode cX9_commit 43 = .ok (.ldc 248, 2) := by decide +kernel
theorem dX9_commit_45 : decode cX9_commit 45 = .ok (.if_icmp .lt 13, 3) := by decide +kernel
theorem dX9_commit_48 : decode cX9_commit 48 = .ok (.new 249, 3) := by decide +kernel
theorem dX9_commit_51 : decode cX9_commit 51 = .ok (.dup, 1) := by decide +kernel
theorem dX9_commit_52 : decode cX9_commit 52 = .ok (.ldc 251, 2) := by decide +kernel
theorem dX9_commit_54 : decode cX9_commit 54 = .ok (.invokespecial 253, 3) := by decide +kernel
theorem dX9_commit_57 : decode cX9_commit 57 = .ok (.athrow, 1) := by decide +kernel
theorem dX9_commit_58 : decode cX9_commit 58 = .ok (.aload_n 0, 1) := by decide +kernel
theorem dX9_commit_59 : decode cX9_commit 59 = .ok (.invokevirtual 238, 3) := by decide +kernel
theorem dX9_commit_62 : decode cX9_commit 62 = .ok (.aload_n 0, 1) := by decide +kernel
theorem dX9_commit_63 : decode cX9_commit 63 = .ok (.invokevirtual 254, 3) := by decide +kernel
theorem dX9_commit_66 : decode cX9_commit 66 = .ok (.invokestatic 258, 3) := by decide +kernel
theorem dX9_commit_69 : decode cX9_commit 69 = .ok (.aload_n 0, 1) := by decide +kernel
theorem dX9_commit_70 : decode cX9_commit 70 = .ok (.invokevirtual 241, 3) := by decide +kernel
theorem dX9_commit_73 : decode cX9_commit 73 = .ok (.if_icmp .ge 14, 3) := by decide +kernel
theorem dX9_commit_76 : decode cX9_commit 76 = .ok (.new 249, 3) := by decide +kernel
theorem dX9_commit_79 : decode cX9_commit 79 = .ok (.dup, 1) := by decide +kernel
theorem dX9_commit_80 : decode cX9_commit 80 = .ok (.ldc_w 264, 3) := by decide +kernel
theorem dX9_commit_83 : decode cX9_commit 83 = .ok (.invokespecial 253, 3) := by decide +kernel
theorem dX9_commit_86 : decode cX9_commit 86 = .ok (.athrow, 1) := by decide +kernel
theorem dX9_commit_87 : decode cX9_commit 87 = .ok (.aload_n 0, 1) := by decide +kernel
theorem dX9_commit_88 : decode cX9_commit 88 = .ok (.invokevirtual 266, 3) := by decide +kernel
theorem dX9_commit_91 : decode cX9_commit 91 = .ok (.aload_n 0, 1) := by decide +kernel
theorem dX9_commit_92 : decode cX9_commit 92 = .ok (.iload_n 1, 1) := by decide +kernel
theorem dX9_commit_93 : decode cX9_commit 93 = .ok (.invokevirtual 269, 3) := by decide +kernel
theorem dX9_commit_96 : decode cX9_commit 96 = .ok (.aload_n 0, 1) := by decide +kernel
theorem dX9_commit_97 : decode cX9_commit 97 = .ok (.invokevirtual 272, 3) := by decide +kernel
theorem dX9_commit_100 : decode cX9_commit 100 = .ok (.ireturn, 1) := by decide +kernel
set_option maxRecDepth 20000 in
theorem ggX9_reopen_X9_endSlotsAndPins : GoodIn wsX9_reopen wsX9_endSlotsAndPins := goodIn_r _ [12, 13, 14, 15, 16, 17, 18, 19, 20, 21, 22, 23, 24, 25, 26, 27, 28, 29, 30, 90, 91, 92, 93, 94, 95, 96, 97, 98, 99, 100, 101, 102, 103, 104, 105, 112, 113, 114, 115, 116, 117, 118] (by decide +kernel) (by decide +kernel)
set_option maxRecDepth 20000 in
theorem gX9_reopen_X9_endSlotsAndPins : GoodIn wsX9_reopen (wsV RX9 104 RX9 yX9_endSlotsAndPins wsX9_endSlotsAndPins) := goodIn_app (goodIn_of _ (by decide +kernel)) ggX9_reopen_X9_endSlotsAndPins
set_option maxRecDepth 20000 in
theorem ggX9_reopen_X9_usableRoot : GoodIn wsX9_reopen wsX9_usableRoot := goodIn_r _ [34, 6, 35, 36, 37, 38, 39, 40, 41, 42, 43, 44, 45, 46, 47, 48, 49, 50, 51, 52, 53, 54, 55, 56, 57, 58, 59, 60, 61, 62, 63, 64, 65, 90, 91, 92, 93, 94, 95, 96, 97, 98, 99, 100, 101, 102, 103, 104, 105, 119, 120] (by decide +kernel) (by decide +kernel)
set_option maxRecDepth 20000 in
theorem gX9_reopen_X9_usableRoot : GoodIn wsX9_reopen (wsV RX9 275 RX9 yX9_usableRoot wsX9_usableRoot) := goodIn_app (goodIn_of _ (by decide +kernel)) ggX9_reopen_X9_usableRoot
set_option maxRecDepth 20000 in
theorem ggX9_reopen_X8_load : GoodIn wsX9_reopen wsX8_load := goodIn_r _ [70, 71, 72, 73, 74, 75, 76, 77, 60, 39, 61, 78, 79, 80, 69, 81, 82, 83, 11, 84, 85, 86, 87, 88, 89, 106, 107, 108, 109, 110, 111, 119, 120] (by decide +kernel) (by decide +kernel)
set_option maxRecDepth 20000 in
theorem gX9_reopen_X8_load : GoodIn wsX9_reopen (wsV RX9 280 RX8 yX8_load wsX8_load) := goodIn_app (goodIn_of _ (by decide +kernel)) ggX9_reopen_X8_load
theorem dX9_reopen_0 : decode cX9_reopen 0 = .ok (.aload_n 0, 1) := by decide +kernel
theorem dX9_reopen_1 : decode cX9_reopen 1 = .ok (.invokevirtual 104, 3) := by decide +kernel
theorem dX9_reopen_4 : decode cX9_reopen 4 = .ok (.aload_n 0, 1) := by decide +kernel
theorem dX9_reopen_5 : decode cX9_reopen 5 = .ok (.invokevirtual 275, 3) := by decide +kernel
theorem dX9_reopen_8 : decode cX9_reopen 8 = .ok (.istore_n 1, 1) := by decide +kernel
theorem dX9_reopen_9 : decode cX9_reopen 9 = .ok (.iload_n 1, 1) := by decide +kernel
theorem dX9_reopen_10 : decode cX9_reopen 10 = .ok (.iconst (-1), 1) := by decide +kernel
theorem dX9_reopen_11 : decode cX9_reopen 11 = .ok (.if_icmp .ne 29, 3) := by decide +kernel
theorem dX9_reopen_14 : decode cX9_reopen 14 = .ok (.aload_n 0, 1) := by decide +kernel
theorem dX9_reopen_15 : decode cX9_reopen 15 = .ok (.iconst 0, 1) := by decide +kernel
theorem dX9_reopen_16 : decode cX9_reopen 16 = .ok (.putfield 93, 3) := by decide +kernel
theorem dX9_reopen_19 : decode cX9_reopen 19 = .ok (.aload_n 0, 1) := by decide +kernel
theorem dX9_reopen_20 : decode cX9_reopen 20 = .ok (.getfield 90, 3) := by decide +kernel
theorem dX9_reopen_23 : decode cX9_reopen 23 = .ok (.iconst 5, 1) := by decide +kernel
theorem dX9_reopen_24 : decode cX9_reopen 24 = .ok (.dup2, 1) := by decide +kernel
theorem dX9_reopen_25 : decode cX9_reopen 25 = .ok (.iaload, 1) := by decide +kernel
theorem dX9_reopen_26 : decode cX9_reopen 26 = .ok (.iconst 1, 1) := by decide +kernel
theorem dX9_reopen_27 : decode cX9_reopen 27 = .ok (.iadd, 1) := by decide +kernel
theorem dX9_reopen_28 : decode cX9_reopen 28 = .ok (.iastore, 1) := by decide +kernel
theorem dX9_reopen_29 : decode cX9_reopen 29 = .ok (.new 117, 3) := by decide +kernel
theorem dX9_reopen_32 : decode cX9_reopen 32 = .ok (.dup, 1) := by decide +kernel
theorem dX9_reopen_33 : decode cX9_reopen 33 = .ok (.ldc_w 278, 3) := by decide +kernel
theorem dX9_reopen_36 : decode cX9_reopen 36 = .ok (.invokespecial 121, 3) := by decide +kernel
theorem dX9_reopen_39 : decode cX9_reopen 39 = .ok (.athrow, 1) := by decide +kernel
theorem dX9_reopen_40 : decode cX9_reopen 40 = .ok (.aload_n 0, 1) := by decide +kernel
theorem dX9_reopen_41 : decode cX9_reopen 41 = .ok (.getfield 19, 3) := by decide +kernel
theorem dX9_reopen_44 : decode cX9_reopen 44 = .ok (.aload_n 0, 1) := by decide +kernel
theorem dX9_reopen_45 : decode cX9_reopen 45 = .ok (.getfield 10, 3) := by decide +kernel
theorem dX9_reopen_48 : decode cX9_reopen 48 = .ok (.iload_n 1, 1) := by decide +kernel
theorem dX9_reopen_49 : decode cX9_reopen 49 = .ok (.invokevirtual 280, 3) := by decide +kernel
theorem dX9_reopen_52 : decode cX9_reopen 52 = .ok (.aload_n 0, 1) := by decide +kernel
theorem dX9_reopen_53 : decode cX9_reopen 53 = .ok (.iconst 1, 1) := by decide +kernel
theorem dX9_reopen_54 : decode cX9_reopen 54 = .ok (.putfield 93, 3) := by decide +kernel
theorem dX9_reopen_57 : decode cX9_reopen 57 = .ok (.aload_n 0, 1) := by decide +kernel
theorem dX9_reopen_58 : decode cX9_reopen 58 = .ok (.getfield 90, 3) := by decide +kernel
theorem dX9_reopen_61 : decode cX9_reopen 61 = .ok (.iconst 4, 1) := by decide +kernel
theorem dX9_reopen_62 : decode cX9_reopen 62 = .ok (.dup2, 1) := by decide +kernel
theorem dX9_reopen_63 : decode cX9_reopen 63 = .ok (.iaload, 1) := by decide +kernel
theorem dX9_reopen_64 : decode cX9_reopen 64 = .ok (.iconst 1, 1) := by decide +kernel
theorem dX9_reopen_65 : decode cX9_reopen 65 = .ok (.iadd, 1) := by decide +kernel
theorem dX9_reopen_66 : decode cX9_reopen 66 = .ok (.iastore, 1) := by decide +kernel
theorem dX9_reopen_67 : decode cX9_reopen 67 = .ok (.aload_n 0, 1) := by decide +kernel
theorem dX9_reopen_68 : decode cX9_reopen 68 = .ok (.getfield 19, 3) := by decide +kernel
theorem dX9_reopen_71 : decode cX9_reopen 71 = .ok (.getfield 101, 3) := by decide +kernel
theorem dX9_reopen_74 : decode cX9_reopen 74 = .ok (.ireturn, 1) := by decide +kernel
theorem dX9_isOpen_0 : decode cX9_isOpen 0 = .ok (.aload_n 0, 1) := by decide +kernel
theorem dX9_isOpen_1 : decode cX9_isOpen 1 = .ok (.getfield 93, 3) := by decide +kernel
theorem dX9_isOpen_4 : decode cX9_isOpen 4 = .ok (.ireturn, 1) := by decide +kernel
set_option maxRecDepth 20000 in
theorem ggX9_commitNumber_X9_requireOpen : GoodIn wsX9_commitNumber wsX9_requireOpen := goodIn_ca (goodIn_r _ [7, 8, 9, 10, 11, 12, 13, 14, 15, 16, 17, 18, 19, 20, 21, 22, 23, 24, 25, 26] (by decide +kernel) (by decide +kernel)) (goodIn_sub (fun _ h => List.mem_cons_of_mem _ (List.mem_append_right _ h)) (by decide +kernel))
set_option maxRecDepth 20000 in
theorem gX9_commitNumber_X9_requireOpen : GoodIn wsX9_commitNumber (wsV RX9 107 RX9 yX9_requireOpen wsX9_requireOpen) := goodIn_app (goodIn_of _ (by decide +kernel)) ggX9_commitNumber_X9_requireOpen
theorem dX9_commitNumber_0 : decode cX9_commitNumber 0 = .ok (.aload_n 0, 1) := by decide +kernel
theorem dX9_commitNumber_1 : decode cX9_commitNumber 1 = .ok (.invokevirtual 107, 3) := by decide +kernel
theorem dX9_commitNumber_4 : decode cX9_commitNumber 4 = .ok (.aload_n 0, 1) := by decide +kernel
theorem dX9_commitNumber_5 : decode cX9_commitNumber 5 = .ok (.getfield 19, 3) := by decide +kernel
theorem dX9_commitNumber_8 : decode cX9_commitNumber 8 = .ok (.getfield 101, 3) := by decide +kernel
theorem dX9_commitNumber_11 : decode cX9_commitNumber 11 = .ok (.ireturn, 1) := by decide +kernel
set_option maxRecDepth 20000 in
theorem ggX9_size_X9_requireOpen : GoodIn wsX9_size wsX9_requireOpen := goodIn_ca (goodIn_r _ [7, 8, 9, 10, 18, 19, 20, 21, 22, 23, 24, 25, 26, 27, 28, 29, 30, 31, 32, 33] (by decide +kernel) (by decide +kernel)) (goodIn_sub (fun _ h => List.mem_cons_of_mem _ (List.mem_append_right _ h)) (by decide +kernel))
set_option maxRecDepth 20000 in
theorem gX9_size_X9_requireOpen : GoodIn wsX9_size (wsV RX9 107 RX9 yX9_requireOpen wsX9_requireOpen) := goodIn_app (goodIn_of _ (by decide +kernel)) ggX9_size_X9_requireOpen
set_option maxRecDepth 20000 in
theorem ggX9_size_J13_bitCount_95d88 : GoodIn wsX9_size wsJ13_bitCount_95d88 := goodIn_r _ [14, 15, 16, 17] (by decide +kernel) (by decide +kernel)
set_option maxRecDepth 20000 in
theorem gX9_size_J13_bitCount_95d88 : GoodIn wsX9_size (va_wsS RX9 258 yJ13_bitCount_95d88 wsJ13_bitCount_95d88) := goodIn_app (goodIn_of _ (by decide +kernel)) ggX9_size_J13_bitCount_95d88
theorem dX9_size_0 : decode cX9_size 0 = .ok (.aload_n 0, 1) := by decide +kernel
theorem dX9_size_1 : decode cX9_size 1 = .ok (.invokevirtual 107, 3) := by decide +kernel
theorem dX9_size_4 : decode cX9_size 4 = .ok (.aload_n 0, 1) := by decide +kernel
theorem dX9_size_5 : decode cX9_size 5 = .ok (.getfield 19, 3) := by decide +kernel
theorem dX9_size_8 : decode cX9_size 8 = .ok (.getfield 225, 3) := by decide +kernel
theorem dX9_size_11 : decode cX9_size 11 = .ok (.invokestatic 258, 3) := by decide +kernel
theorem dX9_size_14 : decode cX9_size 14 = .ok (.ireturn, 1) := by decide +kernel
set_option maxRecDepth 20000 in
theorem ggX9_value_X9_requireOpen : GoodIn wsX9_value wsX9_requireOpen := goodIn_ca (goodIn_r _ [6, 7, 8, 9, 25, 26, 27, 28, 29, 30, 31, 32, 33, 34, 35, 36, 37, 38, 39, 40] (by decide +kernel) (by decide +kernel)) (goodIn_sub (fun _ h => List.mem_cons_of_mem _ (List.mem_append_left _ (List.mem_append_left _ (List.mem_append_right _ h)))) (by decide +kernel))
set_option maxRecDepth 20000 in
theorem gX9_value_X9_requireOpen : GoodIn wsX9_value (wsV RX9 107 RX9 yX9_requireOpen wsX9_requireOpen) := goodIn_app (goodIn_of _ (by decide +kernel)) ggX9_value_X9_requireOpen
set_option maxRecDepth 20000 in
theorem ggX9_value_X9_requireKey : GoodIn wsX9_value wsX9_requireKey := goodIn_ca (goodIn_r _ [12, 13, 14] (by decide +kernel) (by decide +kernel)) (goodIn_sub (fun _ h => List.mem_cons_of_mem _ (List.mem_append_left _ (List.mem_append_right _ h))) (by decide +kernel))
set_option maxRecDepth 20000 in
theorem gX9_value_X9_requireKey : GoodIn wsX9_value (va_wsS RX9 127 yX9_requireKey wsX9_requireKey) := goodIn_app (goodIn_of _ (by decide +kernel)) ggX9_value_X9_requireKey
set_option maxRecDepth 20000 in
theorem ggX9_value_X9_recordOf : GoodIn wsX9_value wsX9_recordOf := goodIn_ca (goodIn_r _ [17, 18, 19, 20, 21, 22, 23, 5, 24, 41, 42, 43, 44, 45, 46] (by decide +kernel) (by decide +kernel)) (goodIn_sub (fun _ h => List.mem_cons_of_mem _ (List.mem_append_right _ h)) (by decide +kernel))
set_option maxRecDepth 20000 in
theorem gX9_value_X9_recordOf : GoodIn wsX9_value (va_wsS RX9 284 yX9_recordOf wsX9_recordOf) := goodIn_app (goodIn_of _ (by decide +kernel)) ggX9_value_X9_recordOf
theorem dX9_value_0 : decode cX9_value 0 = .ok (.aload_n 0, 1) := by decide +kernel
theorem dX9_value_1 : decode cX9_value 1 = .ok (.invokevirtual 107, 3) := by decide +kernel
theorem dX9_value_4 : decode cX9_value 4 = .ok (.iload_n 1, 1) := by decide +kernel
theorem dX9_value_5 : decode cX9_value 5 = .ok (.invokestatic 127, 3) := by decide +kernel
theorem dX9_value_8 : decode cX9_value 8 = .ok (.aload_n 0, 1) := by decide +kernel
theorem dX9_value_9 : decode cX9_value 9 = .ok (.getfield 19, 3) := by decide +kernel
theorem dX9_value_12 : decode cX9_value 12 = .ok (.iload_n 1, 1) := by decide +kernel
theorem dX9_value_13 : decode cX9_value 13 = .ok (.invokestatic 284, 3) := by decide +kernel
theorem dX9_value_16 : decode cX9_value 16 = .ok (.ireturn, 1) := by decide +kernel
set_option maxRecDepth 20000 in
theorem ggX9_keyAt_X9_requireOpen : GoodIn wsX9_keyAt wsX9_requireOpen := goodIn_ca (goodIn_r _ [7, 8, 9, 10, 29, 30, 31, 32, 33, 34, 35, 36, 37, 38, 39, 40, 41, 42, 43, 44] (by decide +kernel) (by decide +kernel)) (goodIn_sub (fun _ h => List.mem_cons_of_mem _ (List.mem_append_left _ (List.mem_append_right _ h))) (by decide +kernel))
set_option maxRecDepth 20000 in
theorem gX9_keyAt_X9_requireOpen : GoodIn wsX9_keyAt (wsV RX9 107 RX9 yX9_requireOpen wsX9_requireOpen) := goodIn_app (goodIn_of _ (by decide +kernel)) ggX9_keyAt_X9_requireOpen
set_option maxRecDepth 20000 in
theorem ggX9_keyAt_J13_bitCount_95d88 : GoodIn wsX9_keyAt wsJ13_bitCount_95d88 := goodIn_r _ [14, 15, 16, 17] (by decide +kernel) (by decide +kernel)
set_option maxRecDepth 20000 in
theorem gX9_keyAt_J13_bitCount_95d88 : GoodIn wsX9_keyAt (va_wsS RX9 258 yJ13_bitCount_95d88 wsJ13_bitCount_95d88) := goodIn_app (goodIn_of _ (by decide +kernel)) ggX9_keyAt_J13_bitCount_95d88
set_option maxRecDepth 20000 in
theorem ggX9_keyAt_X9_requireIndex : GoodIn wsX9_keyAt wsX9_requireIndex := goodIn_ca (goodIn_r _ [20, 21, 22] (by decide +kernel) (by decide +kernel)) (goodIn_sub (fun _ h => List.mem_cons_of_mem _ (List.mem_append_right _ h)) (by decide +kernel))
set_option maxRecDepth 20000 in
theorem gX9_keyAt_X9_requireIndex : GoodIn wsX9_keyAt (va_wsS RX9 288 yX9_requireIndex wsX9_requireIndex) := goodIn_app (goodIn_of _ (by decide +kernel)) ggX9_keyAt_X9_requireIndex
set_option maxRecDepth 20000 in
theorem ggX9_keyAt_X9_memberAt : GoodIn wsX9_keyAt wsX9_memberAt := goodIn_r _ [25, 26, 27, 6, 28] (by decide +kernel) (by decide +kernel)
set_option maxRecDepth 20000 in
theorem gX9_keyAt_X9_memberAt : GoodIn wsX9_keyAt (va_wsS RX9 291 yX9_memberAt wsX9_memberAt) := goodIn_app (goodIn_of _ (by decide +kernel)) ggX9_keyAt_X9_memberAt
theorem dX9_keyAt_0 : decode cX9_keyAt 0 = .ok (.aload_n 0, 1) := by decide +kernel
theorem dX9_keyAt_1 : decode cX9_keyAt 1 = .ok (.invokevirtual 107, 3) := by decide +kernel
theorem dX9_keyAt_4 : decode cX9_keyAt 4 = .ok (.iload_n 1, 1) := by decide +kernel
theorem dX9_keyAt_5 : decode cX9_keyAt 5 = .ok (.aload_n 0, 1) := by decide +kernel
theorem dX9_keyAt_6 : decode cX9_keyAt 6 = .ok (.getfield 19, 3) := by decide +kernel
theorem dX9_keyAt_9 : decode cX9_keyAt 9 = .ok (.getfield 225, 3) := by decide +kernel
theorem dX9_keyAt_12 : decode cX9_keyAt 12 = .ok (.invokestatic 258, 3) := by decide +kernel
theorem dX9_keyAt_15 : decode cX9_keyAt 15 = .ok (.invokestatic 288, 3) := by decide +kernel
theorem dX9_keyAt_18 : decode cX9_keyAt 18 = .ok (.aload_n 0, 1) := by decide +kernel
theorem dX9_keyAt_19 : decode cX9_keyAt 19 = .ok (.getfield 19, 3) := by decide +kernel
theorem dX9_keyAt_22 : decode cX9_keyAt 22 = .ok (.getfield 225, 3) := by decide +kernel
theorem dX9_keyAt_25 : decode cX9_keyAt 25 = .ok (.iload_n 1, 1) := by decide +kernel
theorem dX9_keyAt_26 : decode cX9_keyAt 26 = .ok (.invokestatic 291, 3) := by decide +kernel
theorem dX9_keyAt_29 : decode cX9_keyAt 29 = .ok (.ireturn, 1) := by decide +kernel
set_option maxRecDepth 20000 in
theorem ggX9_sum_X9_requireOpen : GoodIn wsX9_sum wsX9_requireOpen := goodIn_ca (goodIn_r _ [10, 11, 12, 13, 20, 21, 22, 23, 24, 25, 26, 27, 28, 29, 30, 31, 32, 33, 34, 35] (by decide +kernel) (by decide +kernel)) (goodIn_sub (fun _ h => List.mem_cons_of_mem _ (List.mem_append_right _ h)) (by decide +kernel))
set_option maxRecDepth 20000 in
theorem gX9_sum_X9_requireOpen : GoodIn wsX9_sum (wsV RX9 107 RX9 yX9_requireOpen wsX9_requireOpen) := goodIn_app (goodIn_of _ (by decide +kernel)) ggX9_sum_X9_requireOpen
set_option maxRecDepth 20000 in
theorem ggX9_sum_X9_requireKey : GoodIn wsX9_sum wsX9_requireKey := goodIn_ca (goodIn_r _ [16, 1, 2] (by decide +kernel) (by decide +kernel)) (goodIn_sub (fun _ h => List.mem_cons_of_mem _ (List.mem_append_left _ (List.mem_append_right _ h))) (by decide +kernel))
set_option maxRecDepth 20000 in
theorem gX9_sum_X9_requireKey : GoodIn wsX9_sum (va_wsS RX9 127 yX9_requireKey wsX9_requireKey) := goodIn_app (goodIn_of _ (by decide +kernel)) ggX9_sum_X9_requireKey
set_option maxRecDepth 20000 in
theorem ggX9_sum_X9_isIn : GoodIn wsX9_sum wsX9_isIn := goodIn_r _ [19] (by decide +kernel) (by decide +kernel)
set_option maxRecDepth 20000 in
theorem gX9_sum_X9_isIn : GoodIn wsX9_sum (va_wsS RX9 209 yX9_isIn wsX9_isIn) := goodIn_app (goodIn_of _ (by decide +kernel)) ggX9_sum_X9_isIn
theorem dX9_sum_0 : decode cX9_sum 0 = .ok (.aload_n 0, 1) := by decide +kernel
theorem dX9_sum_1 : decode cX9_sum 1 = .ok (.invokevirtual 107, 3) := by decide +kernel
theorem dX9_sum_4 : decode cX9_sum 4 = .ok (.iload_n 1, 1) := by decide +kernel
theorem dX9_sum_5 : decode cX9_sum 5 = .ok (.invokestatic 127, 3) := by decide +kernel
theorem dX9_sum_8 : decode cX9_sum 8 = .ok (.iload_n 2, 1) := by decide +kernel
theorem dX9_sum_9 : decode cX9_sum 9 = .ok (.invokestatic 127, 3) := by decide +kernel
theorem dX9_sum_12 : decode cX9_sum 12 = .ok (.iload_n 1, 1) := by decide +kernel
theorem dX9_sum_13 : decode cX9_sum 13 = .ok (.iload_n 2, 1) := by decide +kernel
theorem dX9_sum_14 : decode cX9_sum 14 = .ok (.if_icmp .le 14, 3) := by decide +kernel
theorem dX9_sum_17 : decode cX9_sum 17 = .ok (.new 130, 3) := by decide +kernel
theorem dX9_sum_20 : decode cX9_sum 20 = .ok (.dup, 1) := by decide +kernel
theorem dX9_sum_21 : decode cX9_sum 21 = .ok (.ldc_w 295, 3) := by decide +kernel
theorem dX9_sum_24 : decode cX9_sum 24 = .ok (.invokespecial 134, 3) := by decide +kernel
theorem dX9_sum_27 : decode cX9_sum 27 = .ok (.athrow, 1) := by decide +kernel
theorem dX9_sum_28 : decode cX9_sum 28 = .ok (.iconst 0, 1) := by decide +kernel
theorem dX9_sum_29 : decode cX9_sum 29 = .ok (.istore_n 3, 1) := by decide +kernel
theorem dX9_sum_30 : decode cX9_sum 30 = .ok (.iload_n 1, 1) := by decide +kernel
theorem dX9_sum_31 : decode cX9_sum 31 = .ok (.istore 4, 2) := by decide +kernel
theorem dX9_sum_33 : decode cX9_sum 33 = .ok (.iload 4, 2) := by decide +kernel
theorem dX9_sum_35 : decode cX9_sum 35 = .ok (.iload_n 2, 1) := by decide +kernel
theorem dX9_sum_36 : decode cX9_sum 36 = .ok (.if_icmp .gt 37, 3) := by decide +kernel
theorem dX9_sum_39 : decode cX9_sum 39 = .ok (.aload_n 0, 1) := by decide +kernel
theorem dX9_sum_40 : decode cX9_sum 40 = .ok (.getfield 19, 3) := by decide +kernel
theorem dX9_sum_43 : decode cX9_sum 43 = .ok (.getfield 225, 3) := by decide +kernel
theorem dX9_sum_46 : decode cX9_sum 46 = .ok (.iload 4, 2) := by decide +kernel
theorem dX9_sum_48 : decode cX9_sum 48 = .ok (.invokestatic 209, 3) := by decide +kernel
theorem dX9_sum_51 : decode cX9_sum 51 = .ok (.ifCond .eq 16, 3) := by decide +kernel
theorem dX9_sum_54 : decode cX9_sum 54 = .ok (.iload_n 3, 1) := by decide +kernel
theorem dX9_sum_55 : decode cX9_sum 55 = .ok (.aload_n 0, 1) := by decide +kernel
theorem dX9_sum_56 : decode cX9_sum 56 = .ok (.getfield 19, 3) := by decide +kernel
theorem dX9_sum_59 : decode cX9_sum 59 = .ok (.getfield 228, 3) := by decide +kernel
theorem dX9_sum_62 : decode cX9_sum 62 = .ok (.iload 4, 2) := by decide +kernel
theorem dX9_sum_64 : decode cX9_sum 64 = .ok (.iaload, 1) := by decide +kernel
theorem dX9_sum_65 : decode cX9_sum 65 = .ok (.iadd, 1) := by decide +kernel
theorem dX9_sum_66 : decode cX9_sum 66 = .ok (.istore_n 3, 1) := by decide +kernel
theorem dX9_sum_67 : decode cX9_sum 67 = .ok (.iinc 4 1, 3) := by decide +kernel
theorem dX9_sum_70 : decode cX9_sum 70 = .ok (.goto (-37), 3) := by decide +kernel
theorem dX9_sum_73 : decode cX9_sum 73 = .ok (.iload_n 3, 1) := by decide +kernel
theorem dX9_sum_74 : decode cX9_sum 74 = .ok (.ireturn, 1) := by decide +kernel
set_option maxRecDepth 20000 in
theorem ggX9_pageBlock_X9_requireOpen : GoodIn wsX9_pageBlock wsX9_requireOpen := goodIn_ca (goodIn_r _ [7, 8, 9, 10, 16, 17, 18, 19, 20, 21, 22, 23, 24, 25, 26, 27, 28, 29, 30, 31] (by decide +kernel) (by decide +kernel)) (goodIn_sub (fun _ h => List.mem_cons_of_mem _ (List.mem_append_left _ (List.mem_append_right _ h))) (by decide +kernel))
set_option maxRecDepth 20000 in
theorem gX9_pageBlock_X9_requireOpen : GoodIn wsX9_pageBlock (wsV RX9 107 RX9 yX9_requireOpen wsX9_requireOpen) := goodIn_app (goodIn_of _ (by decide +kernel)) ggX9_pageBlock_X9_requireOpen
set_option maxRecDepth 20000 in
theorem ggX9_pageBlock_X9_requireIndex : GoodIn wsX9_pageBlock wsX9_requireIndex := goodIn_ca (goodIn_r _ [13, 14, 15] (by decide +kernel) (by decide +kernel)) (goodIn_sub (fun _ h => List.mem_cons_of_mem _ (List.mem_append_right _ h)) (by decide +kernel))
set_option maxRecDepth 20000 in
theorem gX9_pageBlock_X9_requireIndex : GoodIn wsX9_pageBlock (va_wsS RX9 288 yX9_requireIndex wsX9_requireIndex) := goodIn_app (goodIn_of _ (by decide +kernel)) ggX9_pageBlock_X9_requireIndex
theorem dX9_pageBlock_0 : decode cX9_pageBlock 0 = .ok (.aload_n 0, 1) := by decide +kernel
theorem dX9_pageBlock_1 : decode cX9_pageBlock 1 = .ok (.invokevirtual 107, 3) := by decide +kernel
theorem dX9_pageBlock_4 : decode cX9_pageBlock 4 = .ok (.iload_n 1, 1) := by decide +kernel
theorem dX9_pageBlock_5 : decode cX9_pageBlock 5 = .ok (.bipush 8, 2) := by decide +kernel
theorem dX9_pageBlock_7 : decode cX9_pageBlock 7 = .ok (.invokestatic 288, 3) := by decide +kernel
theorem dX9_pageBlock_10 : decode cX9_pageBlock 10 = .ok (.aload_n 0, 1) := by decide +kernel
theorem dX9_pageBlock_11 : decode cX9_pageBlock 11 = .ok (.getfield 19, 3) := by decide +kernel
theorem dX9_pageBlock_14 : decode cX9_pageBlock 14 = .ok (.getfield 297, 3) := by decide +kernel
theorem dX9_pageBlock_17 : decode cX9_pageBlock 17 = .ok (.iload_n 1, 1) := by decide +kernel
theorem dX9_pageBlock_18 : decode cX9_pageBlock 18 = .ok (.iaload, 1) := by decide +kernel
theorem dX9_pageBlock_19 : decode cX9_pageBlock 19 = .ok (.ireturn, 1) := by decide +kernel
set_option maxRecDepth 20000 in
theorem ggX9_freeCount_X9_requireOpen : GoodIn wsX9_freeCount wsX9_requireOpen := goodIn_ca (goodIn_r _ [5, 6, 7, 8, 34, 35, 36, 37, 38, 39, 40, 41, 42, 43, 44, 45, 46, 47, 48, 49] (by decide +kernel) (by decide +kernel)) (goodIn_sub (fun _ h => List.mem_cons_of_mem _ (List.mem_append_right _ h)) (by decide +kernel))
set_option maxRecDepth 20000 in
theorem gX9_freeCount_X9_requireOpen : GoodIn wsX9_freeCount (wsV RX9 107 RX9 yX9_requireOpen wsX9_requireOpen) := goodIn_app (goodIn_of _ (by decide +kernel)) ggX9_freeCount_X9_requireOpen
set_option maxRecDepth 20000 in
theorem ggX9_freeCount_X9_freeBlocks : GoodIn wsX9_freeCount wsX9_freeBlocks := goodIn_r _ [12, 13, 14, 15, 16, 17, 18, 4, 19, 20, 21, 22, 23, 24, 25, 26, 34, 35, 36, 37, 38, 39, 40, 41, 42, 43, 44, 45, 46, 47, 48, 49, 50, 51, 52, 53, 54, 55] (by decide +kernel) (by decide +kernel)
set_option maxRecDepth 20000 in
theorem gX9_freeCount_X9_freeBlocks : GoodIn wsX9_freeCount (wsV RX9 254 RX9 yX9_freeBlocks wsX9_freeBlocks) := goodIn_app (goodIn_of _ (by decide +kernel)) ggX9_freeCount_X9_freeBlocks
set_option maxRecDepth 20000 in
theorem ggX9_freeCount_J13_bitCount_95d88 : GoodIn wsX9_freeCount wsJ13_bitCount_95d88 := goodIn_r _ [30, 31, 32, 33] (by decide +kernel) (by decide +kernel)
set_option maxRecDepth 20000 in
theorem gX9_freeCount_J13_bitCount_95d88 : GoodIn wsX9_freeCount (va_wsS RX9 258 yJ13_bitCount_95d88 wsJ13_bitCount_95d88) := goodIn_app (goodIn_of _ (by decide +kernel)) ggX9_freeCount_J13_bitCount_95d88
theorem dX9_freeCount_0 : decode cX9_freeCount 0 = .ok (.aload_n 0, 1) := by decide +kernel
theorem dX9_freeCount_1 : decode cX9_freeCount 1 = .ok (.invokevirtual 107, 3) := by decide +kernel
theorem dX9_freeCount_4 : decode cX9_freeCount 4 = .ok (.aload_n 0, 1) := by decide +kernel
theorem dX9_freeCount_5 : decode cX9_freeCount 5 = .ok (.invokevirtual 254, 3) := by decide +kernel
theorem dX9_freeCount_8 : decode cX9_freeCount 8 = .ok (.invokestatic 258, 3) := by decide +kernel
theorem dX9_freeCount_11 : decode cX9_freeCount 11 = .ok (.ireturn, 1) := by decide +kernel
set_option maxRecDepth 20000 in
theorem ggX9_freeBlock_X9_requireOpen : GoodIn wsX9_freeBlock wsX9_requireOpen := goodIn_ca (goodIn_r _ [5, 6, 7, 8, 45, 46, 47, 48, 49, 50, 51, 52, 53, 54, 55, 56, 57, 58, 59, 60] (by decide +kernel) (by decide +kernel)) (goodIn_sub (fun _ h => List.mem_cons_of_mem _ (List.mem_append_left _ (List.mem_append_right _ h))) (by decide +kernel))
set_option maxRecDepth 20000 in
theorem gX9_freeBlock_X9_requireOpen : GoodIn wsX9_freeBlock (wsV RX9 107 RX9 yX9_requireOpen wsX9_requireOpen) := goodIn_app (goodIn_of _ (by decide +kernel)) ggX9_freeBlock_X9_requireOpen
set_option maxRecDepth 20000 in
theorem ggX9_freeBlock_X9_freeBlocks : GoodIn wsX9_freeBlock wsX9_freeBlocks := goodIn_r _ [12, 13, 14, 15, 16, 17, 18, 4, 19, 20, 21, 22, 23, 24, 25, 26, 45, 46, 47, 48, 49, 50, 51, 52, 53, 54, 55, 56, 57, 58, 59, 60, 61, 62, 63, 64, 65, 66] (by decide +kernel) (by decide +kernel)
set_option maxRecDepth 20000 in
theorem gX9_freeBlock_X9_freeBlocks : GoodIn wsX9_freeBlock (wsV RX9 254 RX9 yX9_freeBlocks wsX9_freeBlocks) := goodIn_app (goodIn_of _ (by decide +kernel)) ggX9_freeBlock_X9_freeBlocks
set_option maxRecDepth 20000 in
theorem ggX9_freeBlock_J13_bitCount_95d88 : GoodIn wsX9_freeBlock wsJ13_bitCount_95d88 := goodIn_r _ [30, 31, 32, 33] (by decide +kernel) (by decide +kernel)
set_option maxRecDepth 20000 in
theorem gX9_freeBlock_J13_bitCount_95d88 : GoodIn wsX9_freeBlock (va_wsS RX9 258 yJ13_bitCount_95d88 wsJ13_bitCount_95d88) := goodIn_app (goodIn_of _ (by decide +kernel)) ggX9_freeBlock_J13_bitCount_95d88
set_option maxRecDepth 20000 in
theorem ggX9_freeBlock_X9_requireIndex : GoodIn wsX9_freeBlock wsX9_requireIndex := goodIn_ca (goodIn_r _ [36, 37, 38] (by decide +kernel) (by decide +kernel)) (goodIn_sub (fun _ h => List.mem_cons_of_mem _ (List.mem_append_right _ h)) (by decide +kernel))
set_option maxRecDepth 20000 in
theorem gX9_freeBlock_X9_requireIndex : GoodIn wsX9_freeBlock (va_wsS RX9 288 yX9_requireIndex wsX9_requireIndex) := goodIn_app (goodIn_of _ (by decide +kernel)) ggX9_freeBlock_X9_requireIndex
set_option maxRecDepth 20000 in
theorem ggX9_freeBlock_X9_memberAt : GoodIn wsX9_freeBlock wsX9_memberAt := goodIn_r _ [41, 42, 43, 4, 44] (by decide +kernel) (by decide +kernel)
set_option maxRecDepth 20000 in
theorem gX9_freeBlock_X9_memberAt : GoodIn wsX9_freeBlock (va_wsS RX9 291 yX9_memberAt wsX9_memberAt) := goodIn_app (goodIn_of _ (by decide +kernel)) ggX9_freeBlock_X9_memberAt
theorem dX9_freeBlock_0 : decode cX9_freeBlock 0 = .ok (.aload_n 0, 1) := by decide +kernel
theorem dX9_freeBlock_1 : decode cX9_freeBlock 1 = .ok (.invokevirtual 107, 3) := by decide +kernel
theorem dX9_freeBlock_4 : decode cX9_freeBlock 4 = .ok (.aload_n 0, 1) := by decide +kernel
theorem dX9_freeBlock_5 : decode cX9_freeBlock 5 = .ok (.invokevirtual 254, 3) := by decide +kernel
theorem dX9_freeBlock_8 : decode cX9_freeBlock 8 = .ok (.lstore_n 2, 1) := by decide +kernel
theorem dX9_freeBlock_9 : decode cX9_freeBlock 9 = .ok (.iload_n 1, 1) := by decide +kernel
theorem dX9_freeBlock_10 : decode cX9_freeBlock 10 = .ok (.lload_n 2, 1) := by decide +kernel
theorem dX9_freeBlock_11 : decode cX9_freeBlock 11 = .ok (.invokestatic 258, 3) := by decide +kernel
theorem dX9_freeBlock_14 : decode cX9_freeBlock 14 = .ok (.invokestatic 288, 3) := by decide +kernel
theorem dX9_freeBlock_17 : decode cX9_freeBlock 17 = .ok (.lload_n 2, 1) := by decide +kernel
theorem dX9_freeBlock_18 : decode cX9_freeBlock 18 = .ok (.iload_n 1, 1) := by decide +kernel
theorem dX9_freeBlock_19 : decode cX9_freeBlock 19 = .ok (.invokestatic 291, 3) := by decide +kernel
theorem dX9_freeBlock_22 : decode cX9_freeBlock 22 = .ok (.ireturn, 1) := by decide +kernel
set_option maxRecDepth 20000 in
theorem ggX9_wrongBlock_X9_requireOpen : GoodIn wsX9_wrongBlock wsX9_requireOpen := goodIn_ca (goodIn_r _ [7, 8, 9, 10, 54, 55, 56, 57, 58, 59, 60, 61, 62, 63, 64, 65, 66, 67, 68, 69] (by decide +kernel) (by decide +kernel)) (goodIn_sub (fun _ h => List.mem_cons_of_mem _ (List.mem_append_right _ h)) (by decide +kernel))
set_option maxRecDepth 20000 in
theorem gX9_wrongBlock_X9_requireOpen : GoodIn wsX9_wrongBlock (wsV RX9 107 RX9 yX9_requireOpen wsX9_requireOpen) := goodIn_app (goodIn_of _ (by decide +kernel)) ggX9_wrongBlock_X9_requireOpen
set_option maxRecDepth 20000 in
theorem ggX9_wrongBlock_X8_isWrong : GoodIn wsX9_wrongBlock wsX8_isWrong := goodIn_r _ [15, 16, 17, 18, 19, 20, 21, 22, 23, 24, 25, 26, 27, 28, 29, 30, 31, 32, 33, 34, 35, 36, 14, 37, 38, 39, 40, 41, 42, 43, 44, 45, 46, 47, 48, 49, 50, 51, 52, 6, 53, 70, 71, 72, 73, 74, 75, 76, 77] (by decide +kernel) (by decide +kernel)
set_option maxRecDepth 20000 in
theorem gX9_wrongBlock_X8_isWrong : GoodIn wsX9_wrongBlock (wsV RX9 300 RX8 yX8_isWrong wsX8_isWrong) := goodIn_app (goodIn_of _ (by decide +kernel)) ggX9_wrongBlock_X8_isWrong
theorem dX9_wrongBlock_0 : decode cX9_wrongBlock 0 = .ok (.aload_n 0, 1) := by decide +kernel
theorem dX9_wrongBlock_1 : decode cX9_wrongBlock 1 = .ok (.invokevirtual 107, 3) := by decide +kernel
theorem dX9_wrongBlock_4 : decode cX9_wrongBlock 4 = .ok (.iconst 0, 1) := by decide +kernel
theorem dX9_wrongBlock_5 : decode cX9_wrongBlock 5 = .ok (.istore_n 1, 1) := by decide +kernel
theorem dX9_wrongBlock_6 : decode cX9_wrongBlock 6 = .ok (.iload_n 1, 1) := by decide +kernel
theorem dX9_wrongBlock_7 : decode cX9_wrongBlock 7 = .ok (.bipush 32, 2) := by decide +kernel
theorem dX9_wrongBlock_9 : decode cX9_wrongBlock 9 = .ok (.if_icmp .ge 26, 3) := by decide +kernel
theorem dX9_wrongBlock_12 : decode cX9_wrongBlock 12 = .ok (.aload_n 0, 1) := by decide +kernel
theorem dX9_wrongBlock_13 : decode cX9_wrongBlock 13 = .ok (.getfield 19, 3) := by decide +kernel
theorem dX9_wrongBlock_16 : decode cX9_wrongBlock 16 = .ok (.aload_n 0, 1) := by decide +kernel
theorem dX9_wrongBlock_17 : decode cX9_wrongBlock 17 = .ok (.getfield 10, 3) := by decide +kernel
theorem dX9_wrongBlock_20 : decode cX9_wrongBlock 20 = .ok (.iload_n 1, 1) := by decide +kernel
theorem dX9_wrongBlock_21 : decode cX9_wrongBlock 21 = .ok (.invokevirtual 300, 3) := by decide +kernel
theorem dX9_wrongBlock_24 : decode cX9_wrongBlock 24 = .ok (.ifCond .eq 5, 3) := by decide +kernel
theorem dX9_wrongBlock_27 : decode cX9_wrongBlock 27 = .ok (.iload_n 1, 1) := by decide +kernel
theorem dX9_wrongBlock_28 : decode cX9_wrongBlock 28 = .ok (.ireturn, 1) := by decide +kernel
theorem dX9_wrongBlock_29 : decode cX9_wrongBlock 29 = .ok (.iinc 1 1, 3) := by decide +kernel
theorem dX9_wrongBlock_32 : decode cX9_wrongBlock 32 = .ok (.goto (-26), 3) := by decide +kernel
theorem dX9_wrongBlock_35 : decode cX9_wrongBlock 35 = .ok (.iconst (-1), 1) := by decide +kernel
theorem dX9_wrongBlock_36 : decode cX9_wrongBlock 36 = .ok (.ireturn, 1) := by decide +kernel
theorem dX9_logSize_0 : decode cX9_logSize 0 = .ok (.aload_n 0, 1) := by decide +kernel
theorem dX9_logSize_1 : decode cX9_logSize 1 = .ok (.getfield 79, 3) := by decide +kernel
theorem dX9_logSize_4 : decode cX9_logSize 4 = .ok (.getfield 304, 3) := by decide +kernel
theorem dX9_logSize_7 : decode cX9_logSize 7 = .ok (.ireturn, 1) := by decide +kernel
set_option maxRecDepth 20000 in
theorem ggX9_logged_X9_requireIndex : GoodIn wsX9_logged wsX9_requireIndex := goodIn_ca (goodIn_r _ [7, 8, 9] (by decide +kernel) (by decide +kernel)) (goodIn_sub (fun _ h => List.mem_cons_of_mem _ (List.mem_append_left _ (List.mem_append_right _ h))) (by decide +kernel))
set_option maxRecDepth 20000 in
theorem gX9_logged_X9_requireIndex : GoodIn wsX9_logged (va_wsS RX9 288 yX9_requireIndex wsX9_requireIndex) := goodIn_app (goodIn_of _ (by decide +kernel)) ggX9_logged_X9_requireIndex
set_option maxRecDepth 20000 in
theorem ggX9_logged_X9_requireWhat : GoodIn wsX9_logged wsX9_requireWhat := goodIn_ca (goodIn_r _ [12, 13, 14] (by decide +kernel) (by decide +kernel)) (goodIn_sub (fun _ h => List.mem_cons_of_mem _ (List.mem_append_right _ h)) (by decide +kernel))
set_option maxRecDepth 20000 in
theorem gX9_logged_X9_requireWhat : GoodIn wsX9_logged (va_wsS RX9 307 yX9_requireWhat wsX9_requireWhat) := goodIn_app (goodIn_of _ (by decide +kernel)) ggX9_logged_X9_requireWhat
theorem dX9_logged_0 : decode cX9_logged 0 = .ok (.iload_n 1, 1) := by decide +kernel
theorem dX9_logged_1 : decode cX9_logged 1 = .ok (.aload_n 0, 1) := by decide +kernel
theorem dX9_logged_2 : decode cX9_logged 2 = .ok (.getfield 79, 3) := by decide +kernel
theorem dX9_logged_5 : decode cX9_logged 5 = .ok (.getfield 304, 3) := by decide +kernel
theorem dX9_logged_8 : decode cX9_logged 8 = .ok (.invokestatic 288, 3) := by decide +kernel
theorem dX9_logged_11 : decode cX9_logged 11 = .ok (.iload_n 2, 1) := by decide +kernel
theorem dX9_logged_12 : decode cX9_logged 12 = .ok (.iconst 4, 1) := by decide +kernel
theorem dX9_logged_13 : decode cX9_logged 13 = .ok (.invokestatic 307, 3) := by decide +kernel
theorem dX9_logged_16 : decode cX9_logged 16 = .ok (.aload_n 0, 1) := by decide +kernel
theorem dX9_logged_17 : decode cX9_logged 17 = .ok (.getfield 79, 3) := by decide +kernel
theorem dX9_logged_20 : decode cX9_logged 20 = .ok (.getfield 310, 3) := by decide +kernel
theorem dX9_logged_23 : decode cX9_logged 23 = .ok (.iload_n 1, 1) := by decide +kernel
theorem dX9_logged_24 : decode cX9_logged 24 = .ok (.aaload, 1) := by decide +kernel
theorem dX9_logged_25 : decode cX9_logged 25 = .ok (.iload_n 2, 1) := by decide +kernel
theorem dX9_logged_26 : decode cX9_logged 26 = .ok (.iaload, 1) := by decide +kernel
theorem dX9_logged_27 : decode cX9_logged 27 = .ok (.ireturn, 1) := by decide +kernel
set_option maxRecDepth 20000 in
theorem ggX9_statistic_X9_requireWhat : GoodIn wsX9_statistic wsX9_requireWhat := goodIn_ca (goodIn_r _ [5, 6, 7] (by decide +kernel) (by decide +kernel)) (goodIn_sub (fun _ h => List.mem_cons_of_mem _ (List.mem_append_right _ h)) (by decide +kernel))
set_option maxRecDepth 20000 in
theorem gX9_statistic_X9_requireWhat : GoodIn wsX9_statistic (va_wsS RX9 307 yX9_requireWhat wsX9_requireWhat) := goodIn_app (goodIn_of _ (by decide +kernel)) ggX9_statistic_X9_requireWhat
theorem dX9_statistic_0 : decode cX9_statistic 0 = .ok (.iload_n 1, 1) := by decide +kernel
theorem dX9_statistic_1 : decode cX9_statistic 1 = .ok (.bipush 8, 2) := by decide +kernel
theorem dX9_statistic_3 : decode cX9_statistic 3 = .ok (.invokestatic 307, 3) := by decide +kernel
theorem dX9_statistic_6 : decode cX9_statistic 6 = .ok (.aload_n 0, 1) := by decide +kernel
theorem dX9_statistic_7 : decode cX9_statistic 7 = .ok (.getfield 90, 3) := by decide +kernel
theorem dX9_statistic_10 : decode cX9_statistic 10 = .ok (.iload_n 1, 1) := by decide +kernel
theorem dX9_statistic_11 : decode cX9_statistic 11 = .ok (.iaload, 1) := by decide +kernel
theorem dX9_statistic_12 : decode cX9_statistic 12 = .ok (.ireturn, 1) := by decide +kernel
set_option maxRecDepth 20000 in
theorem ggX9_pin_X9_requireOpen : GoodIn wsX9_pin wsX9_requireOpen := goodIn_ca (goodIn_r _ [10, 1, 2, 11, 27, 28, 29, 30, 31, 32, 33, 34, 35, 36, 37, 38, 39, 40, 41, 42] (by decide +kernel) (by decide +kernel)) (goodIn_sub (fun _ h => List.mem_cons_of_mem _ (List.mem_append_right _ h)) (by decide +kernel))
set_option maxRecDepth 20000 in
theorem gX9_pin_X9_requireOpen : GoodIn wsX9_pin (wsV RX9 107 RX9 yX9_requireOpen wsX9_requireOpen) := goodIn_app (goodIn_of _ (by decide +kernel)) ggX9_pin_X9_requireOpen
set_option maxRecDepth 20000 in
theorem ggX9_pin_X8_copyFrom : GoodIn wsX9_pin wsX8_copyFrom := goodIn_r _ [16, 17, 18, 19, 20, 21, 22, 23, 24, 25, 26, 43, 44, 45, 46, 47, 48] (by decide +kernel) (by decide +kernel)
set_option maxRecDepth 20000 in
theorem gX9_pin_X8_copyFrom : GoodIn wsX9_pin (wsV RX9 314 RX8 yX8_copyFrom wsX8_copyFrom) := goodIn_app (goodIn_of _ (by decide +kernel)) ggX9_pin_X8_copyFrom
theorem dX9_pin_0 : decode cX9_pin 0 = .ok (.aload_n 0, 1) := by decide +kernel
theorem dX9_pin_1 : decode cX9_pin 1 = .ok (.invokevirtual 107, 3) := by decide +kernel
theorem dX9_pin_4 : decode cX9_pin 4 = .ok (.iconst 0, 1) := by decide +kernel
theorem dX9_pin_5 : decode cX9_pin 5 = .ok (.istore_n 1, 1) := by decide +kernel
theorem dX9_pin_6 : decode cX9_pin 6 = .ok (.iload_n 1, 1) := by decide +kernel
theorem dX9_pin_7 : decode cX9_pin 7 = .ok (.iconst 2, 1) := by decide +kernel
theorem dX9_pin_8 : decode cX9_pin 8 = .ok (.if_icmp .ge 40, 3) := by decide +kernel
theorem dX9_pin_11 : decode cX9_pin 11 = .ok (.aload_n 0, 1) := by decide +kernel
theorem dX9_pin_12 : decode cX9_pin 12 = .ok (.getfield 58, 3) := by decide +kernel
theorem dX9_pin_15 : decode cX9_pin 15 = .ok (.iload_n 1, 1) := by decide +kernel
theorem dX9_pin_16 : decode cX9_pin 16 = .ok (.baload, 1) := by decide +kernel
theorem dX9_pin_17 : decode cX9_pin 17 = .ok (.ifCond .ne 25, 3) := by decide +kernel
theorem dX9_pin_20 : decode cX9_pin 20 = .ok (.aload_n 0, 1) := by decide +kernel
theorem dX9_pin_21 : decode cX9_pin 21 = .ok (.getfield 54, 3) := by decide +kernel
theorem dX9_pin_24 : decode cX9_pin 24 = .ok (.iload_n 1, 1) := by decide +kernel
theorem dX9_pin_25 : decode cX9_pin 25 = .ok (.aaload, 1) := by decide +kernel
theorem dX9_pin_26 : decode cX9_pin 26 = .ok (.aload_n 0, 1) := by decide +kernel
theorem dX9_pin_27 : decode cX9_pin 27 = .ok (.getfield 19, 3) := by decide +kernel
theorem dX9_pin_30 : decode cX9_pin 30 = .ok (.invokevirtual 314, 3) := by decide +kernel
theorem dX9_pin_33 : decode cX9_pin 33 = .ok (.aload_n 0, 1) := by decide +kernel
theorem dX9_pin_34 : decode cX9_pin 34 = .ok (.getfield 58, 3) := by decide +kernel
theorem dX9_pin_37 : decode cX9_pin 37 = .ok (.iload_n 1, 1) := by decide +kernel
theorem dX9_pin_38 : decode cX9_pin 38 = .ok (.iconst 1, 1) := by decide +kernel
theorem dX9_pin_39 : decode cX9_pin 39 = .ok (.bastore, 1) := by decide +kernel
theorem dX9_pin_40 : decode cX9_pin 40 = .ok (.iload_n 1, 1) := by decide +kernel
theorem dX9_pin_41 : decode cX9_pin 41 = .ok (.ireturn, 1) := by decide +kernel
theorem dX9_pin_42 : decode cX9_pin 42 = .ok (.iinc 1 1, 3) := by decide +kernel
theorem dX9_pin_45 : decode cX9_pin 45 = .ok (.goto (-39), 3) := by decide +kernel
theorem dX9_pin_48 : decode cX9_pin 48 = .ok (.new 117, 3) := by decide +kernel
theorem dX9_pin_51 : decode cX9_pin 51 = .ok (.dup, 1) := by decide +kernel
theorem dX9_pin_52 : decode cX9_pin 52 = .ok (.ldc_w 318, 3) := by decide +kernel
theorem dX9_pin_55 : decode cX9_pin 55 = .ok (.invokespecial 121, 3) := by decide +kernel
theorem dX9_pin_58 : decode cX9_pin 58 = .ok (.athrow, 1) := by decide +kernel
set_option maxRecDepth 20000 in
theorem ggX9_pinnedValue_X9_requireIndex : GoodIn wsX9_pinnedValue wsX9_requireIndex := goodIn_ca (goodIn_r _ [5, 6, 7] (by decide +kernel) (by decide +kernel)) (goodIn_sub (fun _ h => List.mem_cons_of_mem _ (List.mem_append_left _ (List.mem_append_left _ (List.mem_append_left _ (List.mem_append_right _ h))))) (by decide +kernel))
set_option maxRecDepth 20000 in
theorem gX9_pinnedValue_X9_requireIndex : GoodIn wsX9_pinnedValue (va_wsS RX9 288 yX9_requireIndex wsX9_requireIndex) := goodIn_app (goodIn_of _ (by decide +kernel)) ggX9_pinnedValue_X9_requireIndex
set_option maxRecDepth 20000 in
theorem ggX9_pinnedValue_X9_requireKey : GoodIn wsX9_pinnedValue wsX9_requireKey := goodIn_ca (goodIn_r _ [10, 11, 12] (by decide +kernel) (by decide +kernel)) (goodIn_sub (fun _ h => List.mem_cons_of_mem _ (List.mem_append_left _ (List.mem_append_left _ (List.mem_append_right _ h)))) (by decide +kernel))
set_option maxRecDepth 20000 in
theorem gX9_pinnedValue_X9_requireKey : GoodIn wsX9_pinnedValue (va_wsS RX9 127 yX9_requireKey wsX9_requireKey) := goodIn_app (goodIn_of _ (by decide +kernel)) ggX9_pinnedValue_X9_requireKey
set_option maxRecDepth 20000 in
theorem ggX9_pinnedValue_X9_requirePinned : GoodIn wsX9_pinnedValue wsX9_requirePinned := goodIn_ca (goodIn_r _ [16, 17, 18, 19, 30, 31, 32, 33, 34, 35, 36, 37, 38, 39, 40, 41, 42, 43, 44, 45] (by decide +kernel) (by decide +kernel)) (goodIn_sub (fun _ h => List.mem_cons_of_mem _ (List.mem_append_left _ (List.mem_append_right _ h))) (by decide +kernel))
set_option maxRecDepth 20000 in
theorem gX9_pinnedValue_X9_requirePinned : GoodIn wsX9_pinnedValue (wsV RX9 320 RX9 yX9_requirePinned wsX9_requirePinned) := goodIn_app (goodIn_of _ (by decide +kernel)) ggX9_pinnedValue_X9_requirePinned
set_option maxRecDepth 20000 in
theorem ggX9_pinnedValue_X9_recordOf : GoodIn wsX9_pinnedValue wsX9_recordOf := goodIn_ca (goodIn_r _ [22, 23, 24, 25, 26, 27, 28, 4, 29, 46, 47, 48, 49, 50, 51] (by decide +kernel) (by decide +kernel)) (goodIn_sub (fun _ h => List.mem_cons_of_mem _ (List.mem_append_right _ h)) (by decide +kernel))
set_option maxRecDepth 20000 in
theorem gX9_pinnedValue_X9_recordOf : GoodIn wsX9_pinnedValue (va_wsS RX9 284 yX9_recordOf wsX9_recordOf) := goodIn_app (goodIn_of _ (by decide +kernel)) ggX9_pinnedValue_X9_recordOf
theorem dX9_pinnedValue_0 : decode cX9_pinnedValue 0 = .ok (.iload_n 1, 1) := by decide +kernel
theorem dX9_pinnedValue_1 : decode cX9_pinnedValue 1 = .ok (.iconst 2, 1) := by decide +kernel
theorem dX9_pinnedValue_2 : decode cX9_pinnedValue 2 = .ok (.invokestatic 288, 3) := by decide +kernel
theorem dX9_pinnedValue_5 : decode cX9_pinnedValue 5 = .ok (.iload_n 2, 1) := by decide +kernel
theorem dX9_pinnedValue_6 : decode cX9_pinnedValue 6 = .ok (.invokestatic 127, 3) := by decide +kernel
theorem dX9_pinnedValue_9 : decode cX9_pinnedValue 9 = .ok (.aload_n 0, 1) := by decide +kernel
theorem dX9_pinnedValue_10 : decode cX9_pinnedValue 10 = .ok (.iload_n 1, 1) := by decide +kernel
theorem dX9_pinnedValue_11 : decode cX9_pinnedValue 11 = .ok (.invokevirtual 320, 3) := by decide +kernel
theorem dX9_pinnedValue_14 : decode cX9_pinnedValue 14 = .ok (.aload_n 0, 1) := by decide +kernel
theorem dX9_pinnedValue_15 : decode cX9_pinnedValue 15 = .ok (.getfield 54, 3) := by decide +kernel
theorem dX9_pinnedValue_18 : decode cX9_pinnedValue 18 = .ok (.iload_n 1, 1) := by decide +kernel
theorem dX9_pinnedValue_19 : decode cX9_pinnedValue 19 = .ok (.aaload, 1) := by decide +kernel
theorem dX9_pinnedValue_20 : decode cX9_pinnedValue 20 = .ok (.iload_n 2, 1) := by decide +kernel
theorem dX9_pinnedValue_21 : decode cX9_pinnedValue 21 = .ok (.invokestatic 284, 3) := by decide +kernel
theorem dX9_pinnedValue_24 : decode cX9_pinnedValue 24 = .ok (.ireturn, 1) := by decide +kernel
set_option maxRecDepth 20000 in
theorem ggX9_pinnedCommit_X9_requireIndex : GoodIn wsX9_pinnedCommit wsX9_requireIndex := goodIn_ca (goodIn_r _ [6, 7, 8] (by decide +kernel) (by decide +kernel)) (goodIn_sub (fun _ h => List.mem_cons_of_mem _ (List.mem_append_left _ (List.mem_append_right _ h))) (by decide +kernel))
set_option maxRecDepth 20000 in
theorem gX9_pinnedCommit_X9_requireIndex : GoodIn wsX9_pinnedCommit (va_wsS RX9 288 yX9_requireIndex wsX9_requireIndex) := goodIn_app (goodIn_of _ (by decide +kernel)) ggX9_pinnedCommit_X9_requireIndex
set_option maxRecDepth 20000 in
theorem ggX9_pinnedCommit_X9_requirePinned : GoodIn wsX9_pinnedCommit wsX9_requirePinned := goodIn_ca (goodIn_r _ [12, 13, 14, 15, 16, 17, 18, 19, 20, 21, 22, 23, 24, 25, 26, 27, 28, 29, 30, 31] (by decide +kernel) (by decide +kernel)) (goodIn_sub (fun _ h => List.mem_cons_of_mem _ (List.mem_append_right _ h)) (by decide +kernel))
set_option maxRecDepth 20000 in
theorem gX9_pinnedCommit_X9_requirePinned : GoodIn wsX9_pinnedCommit (wsV RX9 320 RX9 yX9_requirePinned wsX9_requirePinned) := goodIn_app (goodIn_of _ (by decide +kernel)) ggX9_pinnedCommit_X9_requirePinned
theorem dX9_pinnedCommit_0 : decode cX9_pinnedCommit 0 = .ok (.iload_n 1, 1) := by decide +kernel
theorem dX9_pinnedCommit_1 : decode cX9_pinnedCommit 1 = .ok (.iconst 2, 1) := by decide +kernel
theorem dX9_pinnedCommit_2 : decode cX9_pinnedCommit 2 = .ok (.invokestatic 288, 3) := by decide +kernel
theorem dX9_pinnedCommit_5 : decode cX9_pinnedCommit 5 = .ok (.aload_n 0, 1) := by decide +kernel
theorem dX9_pinnedCommit_6 : decode cX9_pinnedCommit 6 = .ok (.iload_n 1, 1) := by decide +kernel
theorem dX9_pinnedCommit_7 : decode cX9_pinnedCommit 7 = .ok (.invokevirtual 320, 3) := by decide +kernel
theorem dX9_pinnedCommit_10 : decode cX9_pinnedCommit 10 = .ok (.aload_n 0, 1) := by decide +kernel
theorem dX9_pinnedCommit_11 : decode cX9_pinnedCommit 11 = .ok (.getfield 54, 3) := by decide +kernel
theorem dX9_pinnedCommit_14 : decode cX9_pinnedCommit 14 = .ok (.iload_n 1, 1) := by decide +kernel
theorem dX9_pinnedCommit_15 : decode cX9_pinnedCommit 15 = .ok (.aaload, 1) := by decide +kernel
theorem dX9_pinnedCommit_16 : decode cX9_pinnedCommit 16 = .ok (.getfield 101, 3) := by decide +kernel
theorem dX9_pinnedCommit_19 : decode cX9_pinnedCommit 19 = .ok (.ireturn, 1) := by decide +kernel
set_option maxRecDepth 20000 in
theorem ggX9_unpin_X9_requireIndex : GoodIn wsX9_unpin wsX9_requireIndex := goodIn_ca (goodIn_r _ [5, 6, 7] (by decide +kernel) (by decide +kernel)) (goodIn_sub (fun _ h => List.mem_cons_of_mem _ (List.mem_append_left _ (List.mem_append_right _ h))) (by decide +kernel))
set_option maxRecDepth 20000 in
theorem gX9_unpin_X9_requireIndex : GoodIn wsX9_unpin (va_wsS RX9 288 yX9_requireIndex wsX9_requireIndex) := goodIn_app (goodIn_of _ (by decide +kernel)) ggX9_unpin_X9_requireIndex
set_option maxRecDepth 20000 in
theorem ggX9_unpin_X9_requirePinned : GoodIn wsX9_unpin wsX9_requirePinned := goodIn_ca (goodIn_r _ [11, 12, 13, 1, 38, 39, 40, 41, 42, 43, 44, 45, 46, 47, 48, 49, 50, 51, 52, 53] (by decide +kernel) (by decide +kernel)) (goodIn_sub (fun _ h => List.mem_cons_of_mem _ (List.mem_append_right _ h)) (by decide +kernel))
set_option maxRecDepth 20000 in
theorem gX9_unpin_X9_requirePinned : GoodIn wsX9_unpin (wsV RX9 320 RX9 yX9_requirePinned wsX9_requirePinned) := goodIn_app (goodIn_of _ (by decide +kernel)) ggX9_unpin_X9_requirePinned
set_option maxRecDepth 20000 in
theorem ggX9_unpin_X9_freeBlocks : GoodIn wsX9_unpin wsX9_freeBlocks := goodIn_r _ [17, 18, 19, 1, 20, 21, 22, 4, 23, 24, 25, 26, 27, 28, 29, 30, 38, 39, 40, 41, 42, 43, 44, 45, 46, 47, 48, 49, 50, 51, 52, 53, 54, 55, 56, 57, 58, 59] (by decide +kernel) (by decide +kernel)
set_option maxRecDepth 20000 in
theorem gX9_unpin_X9_freeBlocks : GoodIn wsX9_unpin (wsV RX9 254 RX9 yX9_freeBlocks wsX9_freeBlocks) := goodIn_app (goodIn_of _ (by decide +kernel)) ggX9_unpin_X9_freeBlocks
set_option maxRecDepth 20000 in
theorem ggX9_unpin_J13_bitCount_95d88 : GoodIn wsX9_unpin wsJ13_bitCount_95d88 := goodIn_r _ [34, 35, 36, 37] (by decide +kernel) (by decide +kernel)
set_option maxRecDepth 20000 in
theorem gX9_unpin_J13_bitCount_95d88 : GoodIn wsX9_unpin (va_wsS RX9 258 yJ13_bitCount_95d88 wsJ13_bitCount_95d88) := goodIn_app (goodIn_of _ (by decide +kernel)) ggX9_unpin_J13_bitCount_95d88
theorem dX9_unpin_0 : decode cX9_unpin 0 = .ok (.iload_n 1, 1) := by decide +kernel
theorem dX9_unpin_1 : decode cX9_unpin 1 = .ok (.iconst 2, 1) := by decide +kernel
theorem dX9_unpin_2 : decode cX9_unpin 2 = .ok (.invokestatic 288, 3) := by decide +kernel
theorem dX9_unpin_5 : decode cX9_unpin 5 = .ok (.aload_n 0, 1) := by decide +kernel
theorem dX9_unpin_6 : decode cX9_unpin 6 = .ok (.iload_n 1, 1) := by decide +kernel
theorem dX9_unpin_7 : decode cX9_unpin 7 = .ok (.invokevirtual 320, 3) := by decide +kernel
theorem dX9_unpin_10 : decode cX9_unpin 10 = .ok (.aload_n 0, 1) := by decide +kernel
theorem dX9_unpin_11 : decode cX9_unpin 11 = .ok (.invokevirtual 254, 3) := by decide +kernel
theorem dX9_unpin_14 : decode cX9_unpin 14 = .ok (.invokestatic 258, 3) := by decide +kernel
theorem dX9_unpin_17 : decode cX9_unpin 17 = .ok (.istore_n 2, 1) := by decide +kernel
theorem dX9_unpin_18 : decode cX9_unpin 18 = .ok (.aload_n 0, 1) := by decide +kernel
theorem dX9_unpin_19 : decode cX9_unpin 19 = .ok (.getfield 58, 3) := by decide +kernel
theorem dX9_unpin_22 : decode cX9_unpin 22 = .ok (.iload_n 1, 1) := by decide +kernel
theorem dX9_unpin_23 : decode cX9_unpin 23 = .ok (.iconst 0, 1) := by decide +kernel
theorem dX9_unpin_24 : decode cX9_unpin 24 = .ok (.bastore, 1) := by decide +kernel
theorem dX9_unpin_25 : decode cX9_unpin 25 = .ok (.aload_n 0, 1) := by decide +kernel
theorem dX9_unpin_26 : decode cX9_unpin 26 = .ok (.invokevirtual 254, 3) := by decide +kernel
theorem dX9_unpin_29 : decode cX9_unpin 29 = .ok (.invokestatic 258, 3) := by decide +kernel
theorem dX9_unpin_32 : decode cX9_unpin 32 = .ok (.iload_n 2, 1) := by decide +kernel
theorem dX9_unpin_33 : decode cX9_unpin 33 = .ok (.isub, 1) := by decide +kernel
theorem dX9_unpin_34 : decode cX9_unpin 34 = .ok (.ireturn, 1) := by decide +kernel
set_option maxRecDepth 20000 in
theorem ggX9_differences_X9_requireIndex : GoodIn wsX9_differences wsX9_requireIndex := goodIn_ca (goodIn_r _ [6, 7, 8] (by decide +kernel) (by decide +kernel)) (goodIn_sub (fun _ h => List.mem_cons_of_mem _ (List.mem_append_left _ (List.mem_append_right _ h))) (by decide +kernel))
set_option maxRecDepth 20000 in
theorem gX9_differences_X9_requireIndex : GoodIn wsX9_differences (va_wsS RX9 288 yX9_requireIndex wsX9_requireIndex) := goodIn_app (goodIn_of _ (by decide +kernel)) ggX9_differences_X9_requireIndex
set_option maxRecDepth 20000 in
theorem ggX9_differences_X9_requirePinned : GoodIn wsX9_differences wsX9_requirePinned := goodIn_ca (goodIn_r _ [12, 13, 14, 15, 34, 35, 36, 37, 38, 39, 40, 41, 42, 43, 44, 45, 46, 47, 48, 49] (by decide +kernel) (by decide +kernel)) (goodIn_sub (fun _ h => List.mem_cons_of_mem _ (List.mem_append_right _ h)) (by decide +kernel))
set_option maxRecDepth 20000 in
theorem gX9_differences_X9_requirePinned : GoodIn wsX9_differences (wsV RX9 320 RX9 yX9_requirePinned wsX9_requirePinned) := goodIn_app (goodIn_of _ (by decide +kernel)) ggX9_differences_X9_requirePinned
set_option maxRecDepth 20000 in
theorem ggX9_differences_X8_differentKeys : GoodIn wsX9_differences wsX8_differentKeys := goodIn_r _ [20, 21, 22, 23, 5, 24, 25, 26, 50, 51, 52, 53, 54, 55] (by decide +kernel) (by decide +kernel)
set_option maxRecDepth 20000 in
theorem gX9_differences_X8_differentKeys : GoodIn wsX9_differences (wsV RX9 323 RX8 yX8_differentKeys wsX8_differentKeys) := goodIn_app (goodIn_of _ (by decide +kernel)) ggX9_differences_X8_differentKeys
set_option maxRecDepth 20000 in
theorem ggX9_differences_J13_bitCount_95d88 : GoodIn wsX9_differences wsJ13_bitCount_95d88 := goodIn_r _ [30, 31, 32, 33] (by decide +kernel) (by decide +kernel)
set_option maxRecDepth 20000 in
theorem gX9_differences_J13_bitCount_95d88 : GoodIn wsX9_differences (va_wsS RX9 258 yJ13_bitCount_95d88 wsJ13_bitCount_95d88) := goodIn_app (goodIn_of _ (by decide +kernel)) ggX9_differences_J13_bitCount_95d88
theorem dX9_differences_0 : decode cX9_differences 0 = .ok (.iload_n 1, 1) := by decide +kernel
theorem dX9_differences_1 : decode cX9_differences 1 = .ok (.iconst 2, 1) := by decide +kernel
theorem dX9_differences_2 : decode cX9_differences 2 = .ok (.invokestatic 288, 3) := by decide +kernel
theorem dX9_differences_5 : decode cX9_differences 5 = .ok (.aload_n 0, 1) := by decide +kernel
theorem dX9_differences_6 : decode cX9_differences 6 = .ok (.iload_n 1, 1) := by decide +kernel
theorem dX9_differences_7 : decode cX9_differences 7 = .ok (.invokevirtual 320, 3) := by decide +kernel
theorem dX9_differences_10 : decode cX9_differences 10 = .ok (.aload_n 0, 1) := by decide +kernel
theorem dX9_differences_11 : decode cX9_differences 11 = .ok (.getfield 19, 3) := by decide +kernel
theorem dX9_differences_14 : decode cX9_differences 14 = .ok (.aload_n 0, 1) := by decide +kernel
theorem dX9_differences_15 : decode cX9_differences 15 = .ok (.getfield 54, 3) := by decide +kernel
theorem dX9_differences_18 : decode cX9_differences 18 = .ok (.iload_n 1, 1) := by decide +kernel
theorem dX9_differences_19 : decode cX9_differences 19 = .ok (.aaload, 1) := by decide +kernel
theorem dX9_differences_20 : decode cX9_differences 20 = .ok (.invokevirtual 323, 3) := by decide +kernel
theorem dX9_differences_23 : decode cX9_differences 23 = .ok (.invokestatic 258, 3) := by decide +kernel
theorem dX9_differences_26 : decode cX9_differences 26 = .ok (.ireturn, 1) := by decide +kernel
set_option maxRecDepth 20000 in
theorem ggX9_differentKey_X9_requireIndex : GoodIn wsX9_differentKey wsX9_requireIndex := goodIn_ca (goodIn_r _ [8, 9, 10] (by decide +kernel) (by decide +kernel)) (goodIn_sub (fun _ h => List.mem_cons_of_mem _ (List.mem_append_left _ (List.mem_append_right _ h))) (by decide +kernel))
set_option maxRecDepth 20000 in
theorem gX9_differentKey_X9_requireIndex : GoodIn wsX9_differentKey (va_wsS RX9 288 yX9_requireIndex wsX9_requireIndex) := goodIn_app (goodIn_of _ (by decide +kernel)) ggX9_differentKey_X9_requireIndex
set_option maxRecDepth 20000 in
theorem ggX9_differentKey_X9_requirePinned : GoodIn wsX9_differentKey wsX9_requirePinned := goodIn_ca (goodIn_r _ [14, 15, 16, 17, 40, 41, 42, 43, 44, 45, 46, 47, 48, 49, 50, 51, 52, 53, 54, 55] (by decide +kernel) (by decide +kernel)) (goodIn_sub (fun _ h => List.mem_cons_of_mem _ (List.mem_append_right _ h)) (by decide +kernel))
set_option maxRecDepth 20000 in
theorem gX9_differentKey_X9_requirePinned : GoodIn wsX9_differentKey (wsV RX9 320 RX9 yX9_requirePinned wsX9_requirePinned) := goodIn_app (goodIn_of _ (by decide +kernel)) ggX9_differentKey_X9_requirePinned
set_option maxRecDepth 20000 in
theorem ggX9_differentKey_X8_differentKeys : GoodIn wsX9_differentKey wsX8_differentKeys := goodIn_r _ [22, 23, 24, 25, 7, 26, 27, 28, 56, 57, 58, 59, 60, 61] (by decide +kernel) (by decide +kernel)
set_option maxRecDepth 20000 in
theorem gX9_differentKey_X8_differentKeys : GoodIn wsX9_differentKey (wsV RX9 323 RX8 yX8_differentKeys wsX8_differentKeys) := goodIn_app (goodIn_of _ (by decide +kernel)) ggX9_differentKey_X8_differentKeys
set_option maxRecDepth 20000 in
theorem ggX9_differentKey_J13_bitCount_95d88 : GoodIn wsX9_differentKey wsJ13_bitCount_95d88 := goodIn_r _ [32, 33, 34, 35] (by decide +kernel) (by decide +kernel)
set_option maxRecDepth 20000 in
theorem gX9_differentKey_J13_bitCount_95d88 : GoodIn wsX9_differentKey (va_wsS RX9 258 yJ13_bitCount_95d88 wsJ13_bitCount_95d88) := goodIn_app (goodIn_of _ (by decide +kernel)) ggX9_differentKey_J13_bitCount_95d88
set_option maxRecDepth 20000 in
theorem ggX9_differentKey_X9_memberAt : GoodIn wsX9_differentKey wsX9_memberAt := goodIn_r _ [38, 39, 25, 7, 26] (by decide +kernel) (by decide +kernel)
set_option maxRecDepth 20000 in
theorem gX9_differentKey_X9_memberAt : GoodIn wsX9_differentKey (va_wsS RX9 291 yX9_memberAt wsX9_memberAt) := goodIn_app (goodIn_of _ (by decide +kernel)) ggX9_differentKey_X9_memberAt
theorem dX9_differentKey_0 : decode cX9_differentKey 0 = .ok (.iload_n 1, 1) := by decide +kernel
theorem dX9_differentKey_1 : decode cX9_differentKey 1 = .ok (.iconst 2, 1) := by decide +kernel
theorem dX9_differentKey_2 : decode cX9_differentKey 2 = .ok (.invokestatic 288, 3) := by decide +kernel
theorem dX9_differentKey_5 : decode cX9_differentKey 5 = .ok (.aload_n 0, 1) := by decide +kernel
theorem dX9_differentKey_6 : decode cX9_differentKey 6 = .ok (.iload_n 1, 1) := by decide +kernel
theorem dX9_differentKey_7 : decode cX9_differentKey 7 = .ok (.invokevirtual 320, 3) := by decide +kernel
theorem dX9_differentKey_10 : decode cX9_differentKey 10 = .ok (.aload_n 0, 1) := by decide +kernel
theorem dX9_differentKey_11 : decode cX9_differentKey 11 = .ok (.getfield 19, 3) := by decide +kernel
theorem dX9_differentKey_14 : decode cX9_differentKey 14 = .ok (.aload_n 0, 1) := by decide +kernel
theorem dX9_differentKey_15 : decode cX9_differentKey 15 = .ok (.getfield 54, 3) := by decide +kernel
theorem dX9_differentKey_18 : decode cX9_differentKey 18 = .ok (.iload_n 1, 1) := by decide +kernel
theorem dX9_differentKey_19 : decode cX9_differentKey 19 = .ok (.aaload, 1) := by decide +kernel
theorem dX9_differentKey_20 : decode cX9_differentKey 20 = .ok (.invokevirtual 323, 3) := by decide +kernel
theorem dX9_differentKey_23 : decode cX9_differentKey 23 = .ok (.lstore_n 3, 1) := by decide +kernel
theorem dX9_differentKey_24 : decode cX9_differentKey 24 = .ok (.iload_n 2, 1) := by decide +kernel
theorem dX9_differentKey_25 : decode cX9_differentKey 25 = .ok (.ifCond .lt 11, 3) := by decide +kernel
theorem dX9_differentKey_28 : decode cX9_differentKey 28 = .ok (.iload_n 2, 1) := by decide +kernel
theorem dX9_differentKey_29 : decode cX9_differentKey 29 = .ok (.lload_n 3, 1) := by decide +kernel
theorem dX9_differentKey_30 : decode cX9_differentKey 30 = .ok (.invokestatic 258, 3) := by decide +kernel
theorem dX9_differentKey_33 : decode cX9_differentKey 33 = .ok (.if_icmp .lt 14, 3) := by decide +kernel
theorem dX9_differentKey_36 : decode cX9_differentKey 36 = .ok (.new 174, 3) := by decide +kernel
theorem dX9_differentKey_39 : decode cX9_differentKey 39 = .ok (.dup, 1) := by decide +kernel
theorem dX9_differentKey_40 : decode cX9_differentKey 40 = .ok (.ldc_w 327, 3) := by decide +kernel
theorem dX9_differentKey_43 : decode cX9_differentKey 43 = .ok (.invokespecial 178, 3) := by decide +kernel
theorem dX9_differentKey_46 : decode cX9_differentKey 46 = .ok (.athrow, 1) := by decide +kernel
theorem dX9_differentKey_47 : decode cX9_differentKey 47 = .ok (.lload_n 3, 1) := by decide +kernel
theorem dX9_differentKey_48 : decode cX9_differentKey 48 = .ok (.iload_n 2, 1) := by decide +kernel
theorem dX9_differentKey_49 : decode cX9_differentKey 49 = .ok (.invokestatic 291, 3) := by decide +kernel
theorem dX9_differentKey_52 : decode cX9_differentKey 52 = .ok (.ireturn, 1) := by decide +kernel
set_option maxRecDepth 20000 in
theorem ggX9_cell_X9_requireIndex : GoodIn wsX9_cell wsX9_requireIndex := goodIn_ca (goodIn_r _ [6, 7, 8] (by decide +kernel) (by decide +kernel)) (goodIn_sub (fun _ h => List.mem_cons_of_mem _ (List.mem_append_right _ h)) (by decide +kernel))
set_option maxRecDepth 20000 in
theorem gX9_cell_X9_requireIndex : GoodIn wsX9_cell (va_wsS RX9 288 yX9_requireIndex wsX9_requireIndex) := goodIn_app (goodIn_of _ (by decide +kernel)) ggX9_cell_X9_requireIndex
theorem dX9_cell_0 : decode cX9_cell 0 = .ok (.iload_n 1, 1) := by decide +kernel
theorem dX9_cell_1 : decode cX9_cell 1 = .ok (.bipush 32, 2) := by decide +kernel
theorem dX9_cell_3 : decode cX9_cell 3 = .ok (.invokestatic 288, 3) := by decide +kernel
theorem dX9_cell_6 : decode cX9_cell 6 = .ok (.iload_n 2, 1) := by decide +kernel
theorem dX9_cell_7 : decode cX9_cell 7 = .ok (.bipush 13, 2) := by decide +kernel
theorem dX9_cell_9 : decode cX9_cell 9 = .ok (.invokestatic 288, 3) := by decide +kernel
theorem dX9_cell_12 : decode cX9_cell 12 = .ok (.aload_n 0, 1) := by decide +kernel
theorem dX9_cell_13 : decode cX9_cell 13 = .ok (.getfield 10, 3) := by decide +kernel
theorem dX9_cell_16 : decode cX9_cell 16 = .ok (.getfield 329, 3) := by decide +kernel
theorem dX9_cell_19 : decode cX9_cell 19 = .ok (.iload_n 1, 1) := by decide +kernel
theorem dX9_cell_20 : decode cX9_cell 20 = .ok (.aaload, 1) := by decide +kernel
theorem dX9_cell_21 : decode cX9_cell 21 = .ok (.iload_n 2, 1) := by decide +kernel
theorem dX9_cell_22 : decode cX9_cell 22 = .ok (.iaload, 1) := by decide +kernel
theorem dX9_cell_23 : decode cX9_cell 23 = .ok (.ireturn, 1) := by decide +kernel
set_option maxRecDepth 20000 in
theorem ggX9_damage_X9_requireIndex : GoodIn wsX9_damage wsX9_requireIndex := goodIn_ca (goodIn_r _ [7, 8, 9] (by decide +kernel) (by decide +kernel)) (goodIn_sub (fun _ h => List.mem_cons_of_mem _ (List.mem_append_right _ h)) (by decide +kernel))
set_option maxRecDepth 20000 in
theorem gX9_damage_X9_requireIndex : GoodIn wsX9_damage (va_wsS RX9 288 yX9_requireIndex wsX9_requireIndex) := goodIn_app (goodIn_of _ (by decide +kernel)) ggX9_damage_X9_requireIndex
theorem dX9_damage_0 : decode cX9_damage 0 = .ok (.iload_n 1, 1) := by decide +kernel
theorem dX9_damage_1 : decode cX9_damage 1 = .ok (.bipush 32, 2) := by decide +kernel
theorem dX9_damage_3 : decode cX9_damage 3 = .ok (.invokestatic 288, 3) := by decide +kernel
theorem dX9_damage_6 : decode cX9_damage 6 = .ok (.iload_n 2, 1) := by decide +kernel
theorem dX9_damage_7 : decode cX9_damage 7 = .ok (.bipush 13, 2) := by decide +kernel
theorem dX9_damage_9 : decode cX9_damage 9 = .ok (.invokestatic 288, 3) := by decide +kernel
theorem dX9_damage_12 : decode cX9_damage 12 = .ok (.aload_n 0, 1) := by decide +kernel
theorem dX9_damage_13 : decode cX9_damage 13 = .ok (.getfield 10, 3) := by decide +kernel
theorem dX9_damage_16 : decode cX9_damage 16 = .ok (.getfield 329, 3) := by decide +kernel
theorem dX9_damage_19 : decode cX9_damage 19 = .ok (.iload_n 1, 1) := by decide +kernel
theorem dX9_damage_20 : decode cX9_damage 20 = .ok (.aaload, 1) := by decide +kernel
theorem dX9_damage_21 : decode cX9_damage 21 = .ok (.iload_n 2, 1) := by decide +kernel
theorem dX9_damage_22 : decode cX9_damage 22 = .ok (.iaload, 1) := by decide +kernel
theorem dX9_damage_23 : decode cX9_damage 23 = .ok (.istore 4, 2) := by decide +kernel
theorem dX9_damage_25 : decode cX9_damage 25 = .ok (.aload_n 0, 1) := by decide +kernel
theorem dX9_damage_26 : decode cX9_damage 26 = .ok (.getfield 10, 3) := by decide +kernel
theorem dX9_damage_29 : decode cX9_damage 29 = .ok (.getfield 329, 3) := by decide +kernel
theorem dX9_damage_32 : decode cX9_damage 32 = .ok (.iload_n 1, 1) := by decide +kernel
theorem dX9_damage_33 : decode cX9_damage 33 = .ok (.aaload, 1) := by decide +kernel
theorem dX9_damage_34 : decode cX9_damage 34 = .ok (.iload_n 2, 1) := by decide +kernel
theorem dX9_damage_35 : decode cX9_damage 35 = .ok (.iload_n 3, 1) := by decide +kernel
theorem dX9_damage_36 : decode cX9_damage 36 = .ok (.iastore, 1) := by decide +kernel
theorem dX9_damage_37 : decode cX9_damage 37 = .ok (.iload 4, 2) := by decide +kernel
theorem dX9_damage_39 : decode cX9_damage 39 = .ok (.iload_n 3, 1) := by decide +kernel
theorem dX9_damage_40 : decode cX9_damage 40 = .ok (.if_icmp .eq 14, 3) := by decide +kernel
theorem dX9_damage_43 : decode cX9_damage 43 = .ok (.aload_n 0, 1) := by decide +kernel
theorem dX9_damage_44 : decode cX9_damage 44 = .ok (.getfield 90, 3) := by decide +kernel
theorem dX9_damage_47 : decode cX9_damage 47 = .ok (.bipush 7, 2) := by decide +kernel
theorem dX9_damage_49 : decode cX9_damage 49 = .ok (.dup2, 1) := by decide +kernel
theorem dX9_damage_50 : decode cX9_damage 50 = .ok (.iaload, 1) := by decide +kernel
theorem dX9_damage_51 : decode cX9_damage 51 = .ok (.iconst 1, 1) := by decide +kernel
theorem dX9_damage_52 : decode cX9_damage 52 = .ok (.iadd, 1) := by decide +kernel
theorem dX9_damage_53 : decode cX9_damage 53 = .ok (.iastore, 1) := by decide +kernel
theorem dX9_damage_54 : decode cX9_damage 54 = .ok (.iload 4, 2) := by decide +kernel
theorem dX9_damage_56 : decode cX9_damage 56 = .ok (.ireturn, 1) := by decide +kernel
set_option maxRecDepth 20000 in
theorem ggX9_checksum_X9_requireIndex : GoodIn wsX9_checksum wsX9_requireIndex := goodIn_ca (goodIn_r _ [5, 6, 7] (by decide +kernel) (by decide +kernel)) (goodIn_sub (fun _ h => List.mem_cons_of_mem _ (List.mem_append_right _ h)) (by decide +kernel))
set_option maxRecDepth 20000 in
theorem gX9_checksum_X9_requireIndex : GoodIn wsX9_checksum (va_wsS RX9 288 yX9_requireIndex wsX9_requireIndex) := goodIn_app (goodIn_of _ (by decide +kernel)) ggX9_checksum_X9_requireIndex
set_option maxRecDepth 20000 in
theorem ggX9_checksum_X1_computeChecksum : GoodIn wsX9_checksum wsX1_computeChecksum := goodIn_r _ [12, 13, 30, 31] (by decide +kernel) (by decide +kernel)
set_option maxRecDepth 20000 in
theorem gX9_checksum_X1_computeChecksum : GoodIn wsX9_checksum (wsV RX9 332 RX1 yX1_computeChecksum wsX1_computeChecksum) := goodIn_app (goodIn_of _ (by decide +kernel)) ggX9_checksum_X1_computeChecksum
theorem dX9_checksum_0 : decode cX9_checksum 0 = .ok (.iload_n 1, 1) := by decide +kernel
theorem dX9_checksum_1 : decode cX9_checksum 1 = .ok (.bipush 32, 2) := by decide +kernel
theorem dX9_checksum_3 : decode cX9_checksum 3 = .ok (.invokestatic 288, 3) := by decide +kernel
theorem dX9_checksum_6 : decode cX9_checksum 6 = .ok (.aload_n 0, 1) := by decide +kernel
theorem dX9_checksum_7 : decode cX9_checksum 7 = .ok (.getfield 10, 3) := by decide +kernel
theorem dX9_checksum_10 : decode cX9_checksum 10 = .ok (.iload_n 1, 1) := by decide +kernel
theorem dX9_checksum_11 : decode cX9_checksum 11 = .ok (.invokevirtual 332, 3) := by decide +kernel
theorem dX9_checksum_14 : decode cX9_checksum 14 = .ok (.ireturn, 1) := by decide +kernel
set_option maxRecDepth 20000 in
theorem ggX9_isValid_X9_requireIndex : GoodIn wsX9_isValid wsX9_requireIndex := goodIn_ca (goodIn_r _ [5, 6, 7] (by decide +kernel) (by decide +kernel)) (goodIn_sub (fun _ h => List.mem_cons_of_mem _ (List.mem_append_right _ h)) (by decide +kernel))
set_option maxRecDepth 20000 in
theorem gX9_isValid_X9_requireIndex : GoodIn wsX9_isValid (va_wsS RX9 288 yX9_requireIndex wsX9_requireIndex) := goodIn_app (goodIn_of _ (by decide +kernel)) ggX9_isValid_X9_requireIndex
set_option maxRecDepth 20000 in
theorem ggX9_isValid_X1_hasRightChecksum : GoodIn wsX9_isValid wsX1_hasRightChecksum := goodIn_r _ [12, 13, 14, 15, 16, 11, 17, 34, 35] (by decide +kernel) (by decide +kernel)
set_option maxRecDepth 20000 in
theorem gX9_isValid_X1_hasRightChecksum : GoodIn wsX9_isValid (wsV RX9 336 RX1 yX1_hasRightChecksum wsX1_hasRightChecksum) := goodIn_app (goodIn_of _ (by decide +kernel)) ggX9_isValid_X1_hasRightChecksum
theorem dX9_isValid_0 : decode cX9_isValid 0 = .ok (.iload_n 1, 1) := by decide +kernel
theorem dX9_isValid_1 : decode cX9_isValid 1 = .ok (.bipush 32, 2) := by decide +kernel
theorem dX9_isValid_3 : decode cX9_isValid 3 = .ok (.invokestatic 288, 3) := by decide +kernel
theorem dX9_isValid_6 : decode cX9_isValid 6 = .ok (.aload_n 0, 1) := by decide +kernel
theorem dX9_isValid_7 : decode cX9_isValid 7 = .ok (.getfield 10, 3) := by decide +kernel
theorem dX9_isValid_10 : decode cX9_isValid 10 = .ok (.iload_n 1, 1) := by decide +kernel
theorem dX9_isValid_11 : decode cX9_isValid 11 = .ok (.invokevirtual 336, 3) := by decide +kernel
theorem dX9_isValid_14 : decode cX9_isValid 14 = .ok (.ireturn, 1) := by decide +kernel
set_option maxRecDepth 20000 in
theorem ggX9_salvage_X6_scan : GoodIn wsX9_salvage wsX6_scan := goodIn_r _ [9, 10, 11, 12, 13, 14, 15, 16, 17, 18, 19, 20, 21, 22, 23, 24, 25, 26, 27, 28, 29, 30, 31, 32, 33, 34, 35, 8, 36, 37, 38, 39, 40, 41, 42, 43, 44, 45, 46, 47, 48, 49, 50, 51, 52, 76, 77, 78, 79, 80, 81] (by decide +kernel) (by decide +kernel)
set_option maxRecDepth 20000 in
theorem gX9_salvage_X6_scan : GoodIn wsX9_salvage (wsV RX9 340 RX6 yX6_scan wsX6_scan) := goodIn_app (goodIn_of _ (by decide +kernel)) ggX9_salvage_X6_scan
set_option maxRecDepth 20000 in
theorem ggX9_salvage_J13_bitCount_95d88 : GoodIn wsX9_salvage wsJ13_bitCount_95d88 := goodIn_r _ [56, 57, 58, 59] (by decide +kernel) (by decide +kernel)
set_option maxRecDepth 20000 in
theorem gX9_salvage_J13_bitCount_95d88 : GoodIn wsX9_salvage (va_wsS RX9 258 yJ13_bitCount_95d88 wsJ13_bitCount_95d88) := goodIn_app (goodIn_of _ (by decide +kernel)) ggX9_salvage_J13_bitCount_95d88
theorem dX9_salvage_0 : decode cX9_salvage 0 = .ok (.aload_n 0, 1) := by decide +kernel
theorem dX9_salvage_1 : decode cX9_salvage 1 = .ok (.getfield 86, 3) := by decide +kernel
theorem dX9_salvage_4 : decode cX9_salvage 4 = .ok (.aload_n 0, 1) := by decide +kernel
theorem dX9_salvage_5 : decode cX9_salvage 5 = .ok (.getfield 10, 3) := by decide +kernel
theorem dX9_salvage_8 : decode cX9_salvage 8 = .ok (.invokevirtual 340, 3) := by decide +kernel
theorem dX9_salvage_11 : decode cX9_salvage 11 = .ok (.aload_n 0, 1) := by decide +kernel
theorem dX9_salvage_12 : decode cX9_salvage 12 = .ok (.getfield 86, 3) := by decide +kernel
theorem dX9_salvage_15 : decode cX9_salvage 15 = .ok (.getfield 344, 3) := by decide +kernel
theorem dX9_salvage_18 : decode cX9_salvage 18 = .ok (.invokestatic 258, 3) := by decide +kernel
theorem dX9_salvage_21 : decode cX9_salvage 21 = .ok (.istore_n 1, 1) := by decide +kernel
theorem dX9_salvage_22 : decode cX9_salvage 22 = .ok (.aload_n 0, 1) := by decide +kernel
theorem dX9_salvage_23 : decode cX9_salvage 23 = .ok (.getfield 90, 3) := by decide +kernel
theorem dX9_salvage_26 : decode cX9_salvage 26 = .ok (.bipush 6, 2) := by decide +kernel
theorem dX9_salvage_28 : decode cX9_salvage 28 = .ok (.dup2, 1) := by decide +kernel
theorem dX9_salvage_29 : decode cX9_salvage 29 = .ok (.iaload, 1) := by decide +kernel
theorem dX9_salvage_30 : decode cX9_salvage 30 = .ok (.iload_n 1, 1) := by decide +kernel
theorem dX9_salvage_31 : decode cX9_salvage 31 = .ok (.iadd, 1) := by decide +kernel
theorem dX9_salvage_32 : decode cX9_salvage 32 = .ok (.iastore, 1) := by decide +kernel
theorem dX9_salvage_33 : decode cX9_salvage 33 = .ok (.iload_n 1, 1) := by decide +kernel
theorem dX9_salvage_34 : decode cX9_salvage 34 = .ok (.ireturn, 1) := by decide +kernel
set_option maxRecDepth 20000 in
theorem ggX9_salvaged_J13_bitCount_95d88 : GoodIn wsX9_salvaged wsJ13_bitCount_95d88 := goodIn_r _ [9, 10, 11, 12] (by decide +kernel) (by decide +kernel)
set_option maxRecDepth 20000 in
theorem gX9_salvaged_J13_bitCount_95d88 : GoodIn wsX9_salvaged (va_wsS RX9 258 yJ13_bitCount_95d88 wsJ13_bitCount_95d88) := goodIn_app (goodIn_of _ (by decide +kernel)) ggX9_salvaged_J13_bitCount_95d88
set_option maxRecDepth 20000 in
theorem ggX9_salvaged_X9_requireIndex : GoodIn wsX9_salvaged wsX9_requireIndex := goodIn_ca (goodIn_r _ [16, 17, 18] (by decide +kernel) (by decide +kernel)) (goodIn_sub (fun _ h => List.mem_cons_of_mem _ (List.mem_append_left _ (List.mem_append_right _ h))) (by decide +kernel))
set_option maxRecDepth 20000 in
theorem gX9_salvaged_X9_requireIndex : GoodIn wsX9_salvaged (va_wsS RX9 288 yX9_requireIndex wsX9_requireIndex) := goodIn_app (goodIn_of _ (by decide +kernel)) ggX9_salvaged_X9_requireIndex
set_option maxRecDepth 20000 in
theorem ggX9_salvaged_X9_requireWhat : GoodIn wsX9_salvaged wsX9_requireWhat := goodIn_ca (goodIn_r _ [21, 22, 23] (by decide +kernel) (by decide +kernel)) (goodIn_sub (fun _ h => List.mem_cons_of_mem _ (List.mem_append_right _ h)) (by decide +kernel))
set_option maxRecDepth 20000 in
theorem gX9_salvaged_X9_requireWhat : GoodIn wsX9_salvaged (va_wsS RX9 307 yX9_requireWhat wsX9_requireWhat) := goodIn_app (goodIn_of _ (by decide +kernel)) ggX9_salvaged_X9_requireWhat
set_option maxRecDepth 20000 in
theorem ggX9_salvaged_X9_memberAt : GoodIn wsX9_salvaged wsX9_memberAt := goodIn_r _ [26, 27, 28, 15, 29] (by decide +kernel) (by decide +kernel)
set_option maxRecDepth 20000 in
theorem gX9_salvaged_X9_memberAt : GoodIn wsX9_salvaged (va_wsS RX9 291 yX9_memberAt wsX9_memberAt) := goodIn_app (goodIn_of _ (by decide +kernel)) ggX9_salvaged_X9_memberAt
theorem dX9_salvaged_0 : decode cX9_salvaged 0 = .ok (.iload_n 1, 1) := by decide +kernel
theorem dX9_salvaged_1 : decode cX9_salvaged 1 = .ok (.aload_n 0, 1) := by decide +kernel
theorem dX9_salvaged_2 : decode cX9_salvaged 2 = .ok (.getfield 86, 3) := by decide +kernel
theorem dX9_salvaged_5 : decode cX9_salvaged 5 = .ok (.getfield 344, 3) := by decide +kernel
theorem dX9_salvaged_8 : decode cX9_salvaged 8 = .ok (.invokestatic 258, 3) := by decide +kernel
theorem dX9_salvaged_11 : decode cX9_salvaged 11 = .ok (.invokestatic 288, 3) := by decide +kernel
theorem dX9_salvaged_14 : decode cX9_salvaged 14 = .ok (.iload_n 2, 1) := by decide +kernel
theorem dX9_salvaged_15 : decode cX9_salvaged 15 = .ok (.iconst 4, 1) := by decide +kernel
theorem dX9_salvaged_16 : decode cX9_salvaged 16 = .ok (.invokestatic 307, 3) := by decide +kernel
theorem dX9_salvaged_19 : decode cX9_salvaged 19 = .ok (.aload_n 0, 1) := by decide +kernel
theorem dX9_salvaged_20 : decode cX9_salvaged 20 = .ok (.getfield 86, 3) := by decide +kernel
theorem dX9_salvaged_23 : decode cX9_salvaged 23 = .ok (.getfield 344, 3) := by decide +kernel
theorem dX9_salvaged_26 : decode cX9_salvaged 26 = .ok (.iload_n 1, 1) := by decide +kernel
theorem dX9_salvaged_27 : decode cX9_salvaged 27 = .ok (.invokestatic 291, 3) := by decide +kernel
theorem dX9_salvaged_30 : decode cX9_salvaged 30 = .ok (.istore_n 3, 1) := by decide +kernel
theorem dX9_salvaged_31 : decode cX9_salvaged 31 = .ok (.iload_n 2, 1) := by decide +kernel
theorem dX9_salvaged_32 : decode cX9_salvaged 32 = .ok (.tableswitch 50 0 2 #[28, 30, 40], 28) := by decide +kernel
theorem dX9_salvaged_60 : decode cX9_salvaged 60 = .ok (.iload_n 3, 1) := by decide +kernel
theorem dX9_salvaged_61 : decode cX9_salvaged 61 = .ok (.ireturn, 1) := by decide +kernel
theorem dX9_salvaged_62 : decode cX9_salvaged 62 = .ok (.aload_n 0, 1) := by decide +kernel
theorem dX9_salvaged_63 : decode cX9_salvaged 63 = .ok (.getfield 86, 3) := by decide +kernel
theorem dX9_salvaged_66 : decode cX9_salvaged 66 = .ok (.getfield 345, 3) := by decide +kernel
theorem dX9_salvaged_69 : decode cX9_salvaged 69 = .ok (.iload_n 3, 1) := by decide +kernel
theorem dX9_salvaged_70 : decode cX9_salvaged 70 = .ok (.iaload, 1) := by decide +kernel
theorem dX9_salvaged_71 : decode cX9_salvaged 71 = .ok (.ireturn, 1) := by decide +kernel
theorem dX9_salvaged_72 : decode cX9_salvaged 72 = .ok (.aload_n 0, 1) := by decide +kernel
theorem dX9_salvaged_73 : decode cX9_salvaged 73 = .ok (.getfield 86, 3) := by decide +kernel
theorem dX9_salvaged_76 : decode cX9_salvaged 76 = .ok (.getfield 346, 3) := by decide +kernel
theorem dX9_salvaged_79 : decode cX9_salvaged 79 = .ok (.iload_n 3, 1) := by decide +kernel
theorem dX9_salvaged_80 : decode cX9_salvaged 80 = .ok (.iaload, 1) := by decide +kernel
theorem dX9_salvaged_81 : decode cX9_salvaged 81 = .ok (.ireturn, 1) := by decide +kernel
theorem dX9_salvaged_82 : decode cX9_salvaged 82 = .ok (.aload_n 0, 1) := by decide +kernel
theorem dX9_salvaged_83 : decode cX9_salvaged 83 = .ok (.getfield 86, 3) := by decide +kernel
theorem dX9_salvaged_86 : decode cX9_salvaged 86 = .ok (.getfield 349, 3) := by decide +kernel
theorem dX9_salvaged_89 : decode cX9_salvaged 89 = .ok (.iload_n 3, 1) := by decide +kernel
theorem dX9_salvaged_90 : decode cX9_salvaged 90 = .ok (.iaload, 1) := by decide +kernel
theorem dX9_salvaged_91 : decode cX9_salvaged 91 = .ok (.ireturn, 1) := by decide +kernel
set_option maxRecDepth 20000 in
theorem ggX9_adopt_X9_requireSlot : GoodIn wsX9_adopt wsX9_requireSlot := goodIn_ca (goodIn_r _ [9, 10, 11, 8, 12, 13, 14] (by decide +kernel) (by decide +kernel)) (goodIn_sub (fun _ h => List.mem_cons_of_mem _ (List.mem_append_left _ (List.mem_append_right _ h))) (by decide +kernel))
set_option maxRecDepth 20000 in
theorem gX9_adopt_X9_requireSlot : GoodIn wsX9_adopt (va_wsS RX9 124 yX9_requireSlot wsX9_requireSlot) := goodIn_app (goodIn_of _ (by decide +kernel)) ggX9_adopt_X9_requireSlot
set_option maxRecDepth 20000 in
theorem ggX9_adopt_X9_requireActive : GoodIn wsX9_adopt wsX9_requireActive := goodIn_ca (goodIn_r _ [18, 19, 20, 3, 21, 43, 44, 45, 46, 47, 48, 49, 50, 51, 52, 53, 54, 55, 56, 57, 58, 63, 64, 65, 66] (by decide +kernel) (by decide +kernel)) (goodIn_sub (fun _ h => List.mem_cons_of_mem _ (List.mem_append_right _ h)) (by decide +kernel))
set_option maxRecDepth 20000 in
theorem gX9_adopt_X9_requireActive : GoodIn wsX9_adopt (wsV RX9 135 RX9 yX9_requireActive wsX9_requireActive) := goodIn_app (goodIn_of _ (by decide +kernel)) ggX9_adopt_X9_requireActive
set_option maxRecDepth 20000 in
theorem ggX9_adopt_X9_isIn : GoodIn wsX9_adopt wsX9_isIn := goodIn_r _ [24] (by decide +kernel) (by decide +kernel)
