theorem dX10_mark_81 : decode cX10_mark 81 = .ok (.aload_n 0, 1) := by decide +kernel
theorem dX10_mark_82 : decode cX10_mark 82 = .ok (.getfield 38, 3) := by decide +kernel
theorem dX10_mark_85 : decode cX10_mark 85 = .ok (.bipush 64, 2) := by decide +kernel
theorem dX10_mark_87 : decode cX10_mark 87 = .ok (.iload_n 1, 1) := by decide +kernel
theorem dX10_mark_88 : decode cX10_mark 88 = .ok (.imul, 1) := by decide +kernel
theorem dX10_mark_89 : decode cX10_mark 89 = .ok (.aload_n 0, 1) := by decide +kernel
theorem dX10_mark_90 : decode cX10_mark 90 = .ok (.getfield 50, 3) := by decide +kernel
theorem dX10_mark_93 : decode cX10_mark 93 = .ok (.iload_n 2, 1) := by decide +kernel
theorem dX10_mark_94 : decode cX10_mark 94 = .ok (.bipush 64, 2) := by decide +kernel
theorem dX10_mark_96 : decode cX10_mark 96 = .ok (.invokestatic 164, 3) := by decide +kernel
theorem dX10_mark_99 : decode cX10_mark 99 = .ok (.aload_n 0, 1) := by decide +kernel
theorem dX10_mark_100 : decode cX10_mark 100 = .ok (.getfield 41, 3) := by decide +kernel
theorem dX10_mark_103 : decode cX10_mark 103 = .ok (.bipush 64, 2) := by decide +kernel
theorem dX10_mark_105 : decode cX10_mark 105 = .ok (.iload_n 1, 1) := by decide +kernel
theorem dX10_mark_106 : decode cX10_mark 106 = .ok (.imul, 1) := by decide +kernel
theorem dX10_mark_107 : decode cX10_mark 107 = .ok (.aload_n 0, 1) := by decide +kernel
theorem dX10_mark_108 : decode cX10_mark 108 = .ok (.getfield 53, 3) := by decide +kernel
theorem dX10_mark_111 : decode cX10_mark 111 = .ok (.iload_n 2, 1) := by decide +kernel
theorem dX10_mark_112 : decode cX10_mark 112 = .ok (.bipush 64, 2) := by decide +kernel
theorem dX10_mark_114 : decode cX10_mark 114 = .ok (.invokestatic 164, 3) := by decide +kernel
theorem dX10_mark_117 : decode cX10_mark 117 = .ok (.aload_n 0, 1) := by decide +kernel
theorem dX10_mark_118 : decode cX10_mark 118 = .ok (.getfield 44, 3) := by decide +kernel
theorem dX10_mark_121 : decode cX10_mark 121 = .ok (.iload_n 1, 1) := by decide +kernel
theorem dX10_mark_122 : decode cX10_mark 122 = .ok (.dup2, 1) := by decide +kernel
theorem dX10_mark_123 : decode cX10_mark 123 = .ok (.iaload, 1) := by decide +kernel
theorem dX10_mark_124 : decode cX10_mark 124 = .ok (.iconst 1, 1) := by decide +kernel
theorem dX10_mark_125 : decode cX10_mark 125 = .ok (.iadd, 1) := by decide +kernel
theorem dX10_mark_126 : decode cX10_mark 126 = .ok (.iastore, 1) := by decide +kernel
theorem dX10_mark_127 : decode cX10_mark 127 = .ok (.aload_n 0, 1) := by decide +kernel
theorem dX10_mark_128 : decode cX10_mark 128 = .ok (.getfield 44, 3) := by decide +kernel
theorem dX10_mark_131 : decode cX10_mark 131 = .ok (.iload_n 1, 1) := by decide +kernel
theorem dX10_mark_132 : decode cX10_mark 132 = .ok (.iaload, 1) := by decide +kernel
theorem dX10_mark_133 : decode cX10_mark 133 = .ok (.ireturn, 1) := by decide +kernel
set_option maxRecDepth 20000 in
theorem ggX10_goBack_X10_isSlot : GoodIn wsX10_goBack wsX10_isSlot := goodIn_r _ [17, 18, 19, 16, 20] (by decide +kernel) (by decide +kernel)
set_option maxRecDepth 20000 in
theorem gX10_goBack_X10_isSlot : GoodIn wsX10_goBack (va_wsS RX10 139 yX10_isSlot wsX10_isSlot) := goodIn_app (goodIn_of _ (by decide +kernel)) ggX10_goBack_X10_isSlot
set_option maxRecDepth 20000 in
theorem ggX10_goBack_X10_changesOf : GoodIn wsX10_goBack wsX10_changesOf := goodIn_r _ [24, 5, 25, 26, 27, 28, 29, 30, 31, 32, 33, 34, 35, 36, 37, 38, 39, 40, 41, 42, 43, 44, 45, 46, 47, 48, 49, 50, 51, 52, 53, 54, 55, 56, 57, 58, 59, 60, 61, 62] (by decide +kernel) (by decide +kernel)
set_option maxRecDepth 20000 in
theorem gX10_goBack_X10_changesOf : GoodIn wsX10_goBack (wsV RX10 161 RX10 yX10_changesOf wsX10_changesOf) := goodIn_app (goodIn_of _ (by decide +kernel)) ggX10_goBack_X10_changesOf
theorem dX10_goBack_0 : decode cX10_goBack 0 = .ok (.aload_n 0, 1) := by decide +kernel
theorem dX10_goBack_1 : decode cX10_goBack 1 = .ok (.iload_n 1, 1) := by decide +kernel
theorem dX10_goBack_2 : decode cX10_goBack 2 = .ok (.invokestatic 139, 3) := by decide +kernel
theorem dX10_goBack_5 : decode cX10_goBack 5 = .ok (.ifCond .ne 7, 3) := by decide +kernel
theorem dX10_goBack_8 : decode cX10_goBack 8 = .ok (.iconst 1, 1) := by decide +kernel
theorem dX10_goBack_9 : decode cX10_goBack 9 = .ok (.goto 31, 3) := by decide +kernel
theorem dX10_goBack_12 : decode cX10_goBack 12 = .ok (.aload_n 0, 1) := by decide +kernel
theorem dX10_goBack_13 : decode cX10_goBack 13 = .ok (.getfield 32, 3) := by decide +kernel
theorem dX10_goBack_16 : decode cX10_goBack 16 = .ok (.iload_n 1, 1) := by decide +kernel
theorem dX10_goBack_17 : decode cX10_goBack 17 = .ok (.iaload, 1) := by decide +kernel
theorem dX10_goBack_18 : decode cX10_goBack 18 = .ok (.iconst 1, 1) := by decide +kernel
theorem dX10_goBack_19 : decode cX10_goBack 19 = .ok (.if_icmp .eq 7, 3) := by decide +kernel
theorem dX10_goBack_22 : decode cX10_goBack 22 = .ok (.iconst 2, 1) := by decide +kernel
theorem dX10_goBack_23 : decode cX10_goBack 23 = .ok (.goto 17, 3) := by decide +kernel
theorem dX10_goBack_26 : decode cX10_goBack 26 = .ok (.aload_n 0, 1) := by decide +kernel
theorem dX10_goBack_27 : decode cX10_goBack 27 = .ok (.getfield 44, 3) := by decide +kernel
theorem dX10_goBack_30 : decode cX10_goBack 30 = .ok (.iload_n 1, 1) := by decide +kernel
theorem dX10_goBack_31 : decode cX10_goBack 31 = .ok (.iaload, 1) := by decide +kernel
theorem dX10_goBack_32 : decode cX10_goBack 32 = .ok (.ifCond .ne 7, 3) := by decide +kernel
theorem dX10_goBack_35 : decode cX10_goBack 35 = .ok (.iconst 3, 1) := by decide +kernel
theorem dX10_goBack_36 : decode cX10_goBack 36 = .ok (.goto 4, 3) := by decide +kernel
theorem dX10_goBack_39 : decode cX10_goBack 39 = .ok (.iconst 0, 1) := by decide +kernel
theorem dX10_goBack_40 : decode cX10_goBack 40 = .ok (.putfield 100, 3) := by decide +kernel
theorem dX10_goBack_43 : decode cX10_goBack 43 = .ok (.aload_n 0, 1) := by decide +kernel
theorem dX10_goBack_44 : decode cX10_goBack 44 = .ok (.getfield 100, 3) := by decide +kernel
theorem dX10_goBack_47 : decode cX10_goBack 47 = .ok (.ifCond .le 5, 3) := by decide +kernel
theorem dX10_goBack_50 : decode cX10_goBack 50 = .ok (.iconst 0, 1) := by decide +kernel
theorem dX10_goBack_51 : decode cX10_goBack 51 = .ok (.ireturn, 1) := by decide +kernel
theorem dX10_goBack_52 : decode cX10_goBack 52 = .ok (.aload_n 0, 1) := by decide +kernel
theorem dX10_goBack_53 : decode cX10_goBack 53 = .ok (.getfield 44, 3) := by decide +kernel
theorem dX10_goBack_56 : decode cX10_goBack 56 = .ok (.iload_n 1, 1) := by decide +kernel
theorem dX10_goBack_57 : decode cX10_goBack 57 = .ok (.dup2, 1) := by decide +kernel
theorem dX10_goBack_58 : decode cX10_goBack 58 = .ok (.iaload, 1) := by decide +kernel
theorem dX10_goBack_59 : decode cX10_goBack 59 = .ok (.iconst 1, 1) := by decide +kernel
theorem dX10_goBack_60 : decode cX10_goBack 60 = .ok (.isub, 1) := by decide +kernel
theorem dX10_goBack_61 : decode cX10_goBack 61 = .ok (.iastore, 1) := by decide +kernel
theorem dX10_goBack_62 : decode cX10_goBack 62 = .ok (.bipush 64, 2) := by decide +kernel
theorem dX10_goBack_64 : decode cX10_goBack 64 = .ok (.iconst 3, 1) := by decide +kernel
theorem dX10_goBack_65 : decode cX10_goBack 65 = .ok (.iload_n 1, 1) := by decide +kernel
theorem dX10_goBack_66 : decode cX10_goBack 66 = .ok (.imul, 1) := by decide +kernel
theorem dX10_goBack_67 : decode cX10_goBack 67 = .ok (.aload_n 0, 1) := by decide +kernel
theorem dX10_goBack_68 : decode cX10_goBack 68 = .ok (.getfield 44, 3) := by decide +kernel
theorem dX10_goBack_71 : decode cX10_goBack 71 = .ok (.iload_n 1, 1) := by decide +kernel
theorem dX10_goBack_72 : decode cX10_goBack 72 = .ok (.iaload, 1) := by decide +kernel
theorem dX10_goBack_73 : decode cX10_goBack 73 = .ok (.iadd, 1) := by decide +kernel
theorem dX10_goBack_74 : decode cX10_goBack 74 = .ok (.imul, 1) := by decide +kernel
theorem dX10_goBack_75 : decode cX10_goBack 75 = .ok (.istore_n 2, 1) := by decide +kernel
theorem dX10_goBack_76 : decode cX10_goBack 76 = .ok (.aload_n 0, 1) := by decide +kernel
theorem dX10_goBack_77 : decode cX10_goBack 77 = .ok (.getfield 47, 3) := by decide +kernel
theorem dX10_goBack_80 : decode cX10_goBack 80 = .ok (.iload_n 2, 1) := by decide +kernel
theorem dX10_goBack_81 : decode cX10_goBack 81 = .ok (.aload_n 0, 1) := by decide +kernel
theorem dX10_goBack_82 : decode cX10_goBack 82 = .ok (.getfield 35, 3) := by decide +kernel
theorem dX10_goBack_85 : decode cX10_goBack 85 = .ok (.bipush 64, 2) := by decide +kernel
theorem dX10_goBack_87 : decode cX10_goBack 87 = .ok (.iload_n 1, 1) := by decide +kernel
theorem dX10_goBack_88 : decode cX10_goBack 88 = .ok (.imul, 1) := by decide +kernel
theorem dX10_goBack_89 : decode cX10_goBack 89 = .ok (.bipush 64, 2) := by decide +kernel
theorem dX10_goBack_91 : decode cX10_goBack 91 = .ok (.invokestatic 164, 3) := by decide +kernel
theorem dX10_goBack_94 : decode cX10_goBack 94 = .ok (.aload_n 0, 1) := by decide +kernel
theorem dX10_goBack_95 : decode cX10_goBack 95 = .ok (.getfield 50, 3) := by decide +kernel
theorem dX10_goBack_98 : decode cX10_goBack 98 = .ok (.iload_n 2, 1) := by decide +kernel
theorem dX10_goBack_99 : decode cX10_goBack 99 = .ok (.aload_n 0, 1) := by decide +kernel
theorem dX10_goBack_100 : decode cX10_goBack 100 = .ok (.getfield 38, 3) := by decide +kernel
theorem dX10_goBack_103 : decode cX10_goBack 103 = .ok (.bipush 64, 2) := by decide +kernel
theorem dX10_goBack_105 : decode cX10_goBack 105 = .ok (.iload_n 1, 1) := by decide +kernel
theorem dX10_goBack_106 : decode cX10_goBack 106 = .ok (.imul, 1) := by decide +kernel
theorem dX10_goBack_107 : decode cX10_goBack 107 = .ok (.bipush 64, 2) := by decide +kernel
theorem dX10_goBack_109 : decode cX10_goBack 109 = .ok (.invokestatic 164, 3) := by decide +kernel
theorem dX10_goBack_112 : decode cX10_goBack 112 = .ok (.aload_n 0, 1) := by decide +kernel
theorem dX10_goBack_113 : decode cX10_goBack 113 = .ok (.getfield 53, 3) := by decide +kernel
theorem dX10_goBack_116 : decode cX10_goBack 116 = .ok (.iload_n 2, 1) := by decide +kernel
theorem dX10_goBack_117 : decode cX10_goBack 117 = .ok (.aload_n 0, 1) := by decide +kernel
theorem dX10_goBack_118 : decode cX10_goBack 118 = .ok (.getfield 41, 3) := by decide +kernel
theorem dX10_goBack_121 : decode cX10_goBack 121 = .ok (.bipush 64, 2) := by decide +kernel
theorem dX10_goBack_123 : decode cX10_goBack 123 = .ok (.iload_n 1, 1) := by decide +kernel
theorem dX10_goBack_124 : decode cX10_goBack 124 = .ok (.imul, 1) := by decide +kernel
theorem dX10_goBack_125 : decode cX10_goBack 125 = .ok (.bipush 64, 2) := by decide +kernel
theorem dX10_goBack_127 : decode cX10_goBack 127 = .ok (.invokestatic 164, 3) := by decide +kernel
theorem dX10_goBack_130 : decode cX10_goBack 130 = .ok (.aload_n 0, 1) := by decide +kernel
theorem dX10_goBack_131 : decode cX10_goBack 131 = .ok (.iload_n 1, 1) := by decide +kernel
theorem dX10_goBack_132 : decode cX10_goBack 132 = .ok (.invokevirtual 161, 3) := by decide +kernel
theorem dX10_goBack_135 : decode cX10_goBack 135 = .ok (.ireturn, 1) := by decide +kernel
set_option maxRecDepth 20000 in
theorem ggX10_ready_X10_isSlot : GoodIn wsX10_ready wsX10_isSlot := goodIn_r _ [9, 10, 11, 8, 12] (by decide +kernel) (by decide +kernel)
set_option maxRecDepth 20000 in
theorem gX10_ready_X10_isSlot : GoodIn wsX10_ready (va_wsS RX10 139 yX10_isSlot wsX10_isSlot) := goodIn_app (goodIn_of _ (by decide +kernel)) ggX10_ready_X10_isSlot
theorem dX10_ready_0 : decode cX10_ready 0 = .ok (.aload_n 0, 1) := by decide +kernel
theorem dX10_ready_1 : decode cX10_ready 1 = .ok (.iload_n 1, 1) := by decide +kernel
theorem dX10_ready_2 : decode cX10_ready 2 = .ok (.invokestatic 139, 3) := by decide +kernel
theorem dX10_ready_5 : decode cX10_ready 5 = .ok (.ifCond .ne 7, 3) := by decide +kernel
theorem dX10_ready_8 : decode cX10_ready 8 = .ok (.iconst 1, 1) := by decide +kernel
theorem dX10_ready_9 : decode cX10_ready 9 = .ok (.goto 18, 3) := by decide +kernel
theorem dX10_ready_12 : decode cX10_ready 12 = .ok (.aload_n 0, 1) := by decide +kernel
theorem dX10_ready_13 : decode cX10_ready 13 = .ok (.getfield 32, 3) := by decide +kernel
theorem dX10_ready_16 : decode cX10_ready 16 = .ok (.iload_n 1, 1) := by decide +kernel
theorem dX10_ready_17 : decode cX10_ready 17 = .ok (.iaload, 1) := by decide +kernel
theorem dX10_ready_18 : decode cX10_ready 18 = .ok (.iconst 1, 1) := by decide +kernel
theorem dX10_ready_19 : decode cX10_ready 19 = .ok (.if_icmp .eq 7, 3) := by decide +kernel
theorem dX10_ready_22 : decode cX10_ready 22 = .ok (.iconst 2, 1) := by decide +kernel
theorem dX10_ready_23 : decode cX10_ready 23 = .ok (.goto 4, 3) := by decide +kernel
theorem dX10_ready_26 : decode cX10_ready 26 = .ok (.iconst 0, 1) := by decide +kernel
theorem dX10_ready_27 : decode cX10_ready 27 = .ok (.putfield 100, 3) := by decide +kernel
theorem dX10_ready_30 : decode cX10_ready 30 = .ok (.aload_n 0, 1) := by decide +kernel
theorem dX10_ready_31 : decode cX10_ready 31 = .ok (.getfield 100, 3) := by decide +kernel
theorem dX10_ready_34 : decode cX10_ready 34 = .ok (.ifCond .le 5, 3) := by decide +kernel
theorem dX10_ready_37 : decode cX10_ready 37 = .ok (.iconst 0, 1) := by decide +kernel
theorem dX10_ready_38 : decode cX10_ready 38 = .ok (.ireturn, 1) := by decide +kernel
theorem dX10_ready_39 : decode cX10_ready 39 = .ok (.aload_n 0, 1) := by decide +kernel
theorem dX10_ready_40 : decode cX10_ready 40 = .ok (.getfield 32, 3) := by decide +kernel
theorem dX10_ready_43 : decode cX10_ready 43 = .ok (.iload_n 1, 1) := by decide +kernel
theorem dX10_ready_44 : decode cX10_ready 44 = .ok (.iconst 2, 1) := by decide +kernel
theorem dX10_ready_45 : decode cX10_ready 45 = .ok (.iastore, 1) := by decide +kernel
theorem dX10_ready_46 : decode cX10_ready 46 = .ok (.aload_n 0, 1) := by decide +kernel
theorem dX10_ready_47 : decode cX10_ready 47 = .ok (.getfield 44, 3) := by decide +kernel
theorem dX10_ready_50 : decode cX10_ready 50 = .ok (.iload_n 1, 1) := by decide +kernel
theorem dX10_ready_51 : decode cX10_ready 51 = .ok (.iconst 0, 1) := by decide +kernel
theorem dX10_ready_52 : decode cX10_ready 52 = .ok (.iastore, 1) := by decide +kernel
theorem dX10_ready_53 : decode cX10_ready 53 = .ok (.aload_n 0, 1) := by decide +kernel
theorem dX10_ready_54 : decode cX10_ready 54 = .ok (.getfield 56, 3) := by decide +kernel
theorem dX10_ready_57 : decode cX10_ready 57 = .ok (.aload_n 0, 1) := by decide +kernel
theorem dX10_ready_58 : decode cX10_ready 58 = .ok (.getfield 133, 3) := by decide +kernel
theorem dX10_ready_61 : decode cX10_ready 61 = .ok (.iload_n 1, 1) := by decide +kernel
theorem dX10_ready_62 : decode cX10_ready 62 = .ok (.iastore, 1) := by decide +kernel
theorem dX10_ready_63 : decode cX10_ready 63 = .ok (.aload_n 0, 1) := by decide +kernel
theorem dX10_ready_64 : decode cX10_ready 64 = .ok (.dup, 1) := by decide +kernel
theorem dX10_ready_65 : decode cX10_ready 65 = .ok (.getfield 133, 3) := by decide +kernel
theorem dX10_ready_68 : decode cX10_ready 68 = .ok (.iconst 1, 1) := by decide +kernel
theorem dX10_ready_69 : decode cX10_ready 69 = .ok (.iadd, 1) := by decide +kernel
theorem dX10_ready_70 : decode cX10_ready 70 = .ok (.putfield 133, 3) := by decide +kernel
theorem dX10_ready_73 : decode cX10_ready 73 = .ok (.aload_n 0, 1) := by decide +kernel
theorem dX10_ready_74 : decode cX10_ready 74 = .ok (.getfield 133, 3) := by decide +kernel
theorem dX10_ready_77 : decode cX10_ready 77 = .ok (.ireturn, 1) := by decide +kernel
set_option maxRecDepth 20000 in
theorem ggX10_abandon_X10_isSlot : GoodIn wsX10_abandon wsX10_isSlot := goodIn_r _ [8, 9, 10, 7, 11] (by decide +kernel) (by decide +kernel)
set_option maxRecDepth 20000 in
theorem gX10_abandon_X10_isSlot : GoodIn wsX10_abandon (va_wsS RX10 139 yX10_isSlot wsX10_isSlot) := goodIn_app (goodIn_of _ (by decide +kernel)) ggX10_abandon_X10_isSlot
set_option maxRecDepth 20000 in
theorem ggX10_abandon_X10_changesOf : GoodIn wsX10_abandon wsX10_changesOf := goodIn_r _ [15, 16, 22, 23, 24, 25, 26, 27, 28, 29, 30, 31, 32, 33, 34, 35, 36, 37, 38, 39, 40, 41, 42, 43, 44, 45, 46, 47, 48, 49, 50, 51, 52, 53, 54, 55, 56, 57, 58, 59] (by decide +kernel) (by decide +kernel)
set_option maxRecDepth 20000 in
theorem gX10_abandon_X10_changesOf : GoodIn wsX10_abandon (wsV RX10 161 RX10 yX10_changesOf wsX10_changesOf) := goodIn_app (goodIn_of _ (by decide +kernel)) ggX10_abandon_X10_changesOf
set_option maxRecDepth 20000 in
theorem ggX10_abandon_X10_idle : GoodIn wsX10_abandon wsX10_idle := goodIn_r _ [20, 1, 21, 16, 22, 23, 24, 25, 26, 27, 28, 29, 30, 31, 32, 33, 34, 35, 36, 37, 38, 39, 40, 41, 42, 43, 44, 45, 46, 47, 48, 49, 50, 51, 52, 53, 54, 55, 56, 57, 58, 59] (by decide +kernel) (by decide +kernel)
set_option maxRecDepth 20000 in
theorem gX10_abandon_X10_idle : GoodIn wsX10_abandon (wsV RX10 130 RX10 yX10_idle wsX10_idle) := goodIn_app (goodIn_of _ (by decide +kernel)) ggX10_abandon_X10_idle
theorem dX10_abandon_0 : decode cX10_abandon 0 = .ok (.aload_n 0, 1) := by decide +kernel
theorem dX10_abandon_1 : decode cX10_abandon 1 = .ok (.iload_n 1, 1) := by decide +kernel
theorem dX10_abandon_2 : decode cX10_abandon 2 = .ok (.invokestatic 139, 3) := by decide +kernel
theorem dX10_abandon_5 : decode cX10_abandon 5 = .ok (.ifCond .ne 7, 3) := by decide +kernel
theorem dX10_abandon_8 : decode cX10_abandon 8 = .ok (.iconst 1, 1) := by decide +kernel
theorem dX10_abandon_9 : decode cX10_abandon 9 = .ok (.goto 17, 3) := by decide +kernel
theorem dX10_abandon_12 : decode cX10_abandon 12 = .ok (.aload_n 0, 1) := by decide +kernel
theorem dX10_abandon_13 : decode cX10_abandon 13 = .ok (.getfield 32, 3) := by decide +kernel
theorem dX10_abandon_16 : decode cX10_abandon 16 = .ok (.iload_n 1, 1) := by decide +kernel
theorem dX10_abandon_17 : decode cX10_abandon 17 = .ok (.iaload, 1) := by decide +kernel
theorem dX10_abandon_18 : decode cX10_abandon 18 = .ok (.ifCond .ne 7, 3) := by decide +kernel
theorem dX10_abandon_21 : decode cX10_abandon 21 = .ok (.iconst 2, 1) := by decide +kernel
theorem dX10_abandon_22 : decode cX10_abandon 22 = .ok (.goto 4, 3) := by decide +kernel
theorem dX10_abandon_25 : decode cX10_abandon 25 = .ok (.iconst 0, 1) := by decide +kernel
theorem dX10_abandon_26 : decode cX10_abandon 26 = .ok (.putfield 100, 3) := by decide +kernel
theorem dX10_abandon_29 : decode cX10_abandon 29 = .ok (.aload_n 0, 1) := by decide +kernel
theorem dX10_abandon_30 : decode cX10_abandon 30 = .ok (.getfield 100, 3) := by decide +kernel
theorem dX10_abandon_33 : decode cX10_abandon 33 = .ok (.ifCond .le 5, 3) := by decide +kernel
theorem dX10_abandon_36 : decode cX10_abandon 36 = .ok (.iconst 0, 1) := by decide +kernel
theorem dX10_abandon_37 : decode cX10_abandon 37 = .ok (.ireturn, 1) := by decide +kernel
theorem dX10_abandon_38 : decode cX10_abandon 38 = .ok (.aload_n 0, 1) := by decide +kernel
theorem dX10_abandon_39 : decode cX10_abandon 39 = .ok (.iload_n 1, 1) := by decide +kernel
theorem dX10_abandon_40 : decode cX10_abandon 40 = .ok (.invokevirtual 161, 3) := by decide +kernel
theorem dX10_abandon_43 : decode cX10_abandon 43 = .ok (.istore_n 2, 1) := by decide +kernel
theorem dX10_abandon_44 : decode cX10_abandon 44 = .ok (.aload_n 0, 1) := by decide +kernel
theorem dX10_abandon_45 : decode cX10_abandon 45 = .ok (.getfield 32, 3) := by decide +kernel
theorem dX10_abandon_48 : decode cX10_abandon 48 = .ok (.iload_n 1, 1) := by decide +kernel
theorem dX10_abandon_49 : decode cX10_abandon 49 = .ok (.iaload, 1) := by decide +kernel
theorem dX10_abandon_50 : decode cX10_abandon 50 = .ok (.iconst 2, 1) := by decide +kernel
theorem dX10_abandon_51 : decode cX10_abandon 51 = .ok (.if_icmp .ne 65, 3) := by decide +kernel
theorem dX10_abandon_54 : decode cX10_abandon 54 = .ok (.iconst 0, 1) := by decide +kernel
theorem dX10_abandon_55 : decode cX10_abandon 55 = .ok (.istore_n 3, 1) := by decide +kernel
theorem dX10_abandon_56 : decode cX10_abandon 56 = .ok (.aload_n 0, 1) := by decide +kernel
theorem dX10_abandon_57 : decode cX10_abandon 57 = .ok (.getfield 56, 3) := by decide +kernel
theorem dX10_abandon_60 : decode cX10_abandon 60 = .ok (.iload_n 3, 1) := by decide +kernel
theorem dX10_abandon_61 : decode cX10_abandon 61 = .ok (.iaload, 1) := by decide +kernel
theorem dX10_abandon_62 : decode cX10_abandon 62 = .ok (.iload_n 1, 1) := by decide +kernel
theorem dX10_abandon_63 : decode cX10_abandon 63 = .ok (.if_icmp .eq 9, 3) := by decide +kernel
theorem dX10_abandon_66 : decode cX10_abandon 66 = .ok (.iinc 3 1, 3) := by decide +kernel
theorem dX10_abandon_69 : decode cX10_abandon 69 = .ok (.goto (-13), 3) := by decide +kernel
theorem dX10_abandon_72 : decode cX10_abandon 72 = .ok (.aload_n 0, 1) := by decide +kernel
theorem dX10_abandon_73 : decode cX10_abandon 73 = .ok (.dup, 1) := by decide +kernel
theorem dX10_abandon_74 : decode cX10_abandon 74 = .ok (.getfield 133, 3) := by decide +kernel
theorem dX10_abandon_77 : decode cX10_abandon 77 = .ok (.iconst 1, 1) := by decide +kernel
theorem dX10_abandon_78 : decode cX10_abandon 78 = .ok (.isub, 1) := by decide +kernel
theorem dX10_abandon_79 : decode cX10_abandon 79 = .ok (.putfield 133, 3) := by decide +kernel
theorem dX10_abandon_82 : decode cX10_abandon 82 = .ok (.iload_n 3, 1) := by decide +kernel
theorem dX10_abandon_83 : decode cX10_abandon 83 = .ok (.istore 4, 2) := by decide +kernel
theorem dX10_abandon_85 : decode cX10_abandon 85 = .ok (.iload 4, 2) := by decide +kernel
theorem dX10_abandon_87 : decode cX10_abandon 87 = .ok (.aload_n 0, 1) := by decide +kernel
theorem dX10_abandon_88 : decode cX10_abandon 88 = .ok (.getfield 133, 3) := by decide +kernel
theorem dX10_abandon_91 : decode cX10_abandon 91 = .ok (.if_icmp .ge 25, 3) := by decide +kernel
theorem dX10_abandon_94 : decode cX10_abandon 94 = .ok (.aload_n 0, 1) := by decide +kernel
theorem dX10_abandon_95 : decode cX10_abandon 95 = .ok (.getfield 56, 3) := by decide +kernel
theorem dX10_abandon_98 : decode cX10_abandon 98 = .ok (.iload 4, 2) := by decide +kernel
theorem dX10_abandon_100 : decode cX10_abandon 100 = .ok (.aload_n 0, 1) := by decide +kernel
theorem dX10_abandon_101 : decode cX10_abandon 101 = .ok (.getfield 56, 3) := by decide +kernel
theorem dX10_abandon_104 : decode cX10_abandon 104 = .ok (.iload 4, 2) := by decide +kernel
theorem dX10_abandon_106 : decode cX10_abandon 106 = .ok (.iconst 1, 1) := by decide +kernel
theorem dX10_abandon_107 : decode cX10_abandon 107 = .ok (.iadd, 1) := by decide +kernel
theorem dX10_abandon_108 : decode cX10_abandon 108 = .ok (.iaload, 1) := by decide +kernel
theorem dX10_abandon_109 : decode cX10_abandon 109 = .ok (.iastore, 1) := by decide +kernel
theorem dX10_abandon_110 : decode cX10_abandon 110 = .ok (.iinc 4 1, 3) := by decide +kernel
theorem dX10_abandon_113 : decode cX10_abandon 113 = .ok (.goto (-28), 3) := by decide +kernel
theorem dX10_abandon_116 : decode cX10_abandon 116 = .ok (.aload_n 0, 1) := by decide +kernel
theorem dX10_abandon_117 : decode cX10_abandon 117 = .ok (.iload_n 1, 1) := by decide +kernel
theorem dX10_abandon_118 : decode cX10_abandon 118 = .ok (.invokevirtual 130, 3) := by decide +kernel
theorem dX10_abandon_121 : decode cX10_abandon 121 = .ok (.iload_n 2, 1) := by decide +kernel
theorem dX10_abandon_122 : decode cX10_abandon 122 = .ok (.ireturn, 1) := by decide +kernel
theorem dX10_feed_0 : decode cX10_feed 0 = .ok (.aload_n 0, 1) := by decide +kernel
theorem dX10_feed_1 : decode cX10_feed 1 = .ok (.aload_n 0, 1) := by decide +kernel
theorem dX10_feed_2 : decode cX10_feed 2 = .ok (.getfield 170, 3) := by decide +kernel
theorem dX10_feed_5 : decode cX10_feed 5 = .ok (.bipush 60, 2) := by decide +kernel
theorem dX10_feed_7 : decode cX10_feed 7 = .ok (.if_icmp .ne 7, 3) := by decide +kernel
theorem dX10_feed_10 : decode cX10_feed 10 = .ok (.iconst 1, 1) := by decide +kernel
theorem dX10_feed_11 : decode cX10_feed 11 = .ok (.goto 4, 3) := by decide +kernel
theorem dX10_feed_14 : decode cX10_feed 14 = .ok (.iconst 0, 1) := by decide +kernel
theorem dX10_feed_15 : decode cX10_feed 15 = .ok (.putfield 100, 3) := by decide +kernel
theorem dX10_feed_18 : decode cX10_feed 18 = .ok (.aload_n 0, 1) := by decide +kernel
theorem dX10_feed_19 : decode cX10_feed 19 = .ok (.getfield 100, 3) := by decide +kernel
theorem dX10_feed_22 : decode cX10_feed 22 = .ok (.ifCond .le 5, 3) := by decide +kernel
theorem dX10_feed_25 : decode cX10_feed 25 = .ok (.iconst 0, 1) := by decide +kernel
theorem dX10_feed_26 : decode cX10_feed 26 = .ok (.ireturn, 1) := by decide +kernel
theorem dX10_feed_27 : decode cX10_feed 27 = .ok (.aload_n 0, 1) := by decide +kernel
theorem dX10_feed_28 : decode cX10_feed 28 = .ok (.getfield 59, 3) := by decide +kernel
theorem dX10_feed_31 : decode cX10_feed 31 = .ok (.aload_n 0, 1) := by decide +kernel
theorem dX10_feed_32 : decode cX10_feed 32 = .ok (.getfield 170, 3) := by decide +kernel
theorem dX10_feed_35 : decode cX10_feed 35 = .ok (.iload_n 1, 1) := by decide +kernel
theorem dX10_feed_36 : decode cX10_feed 36 = .ok (.castore, 1) := by decide +kernel
theorem dX10_feed_37 : decode cX10_feed 37 = .ok (.aload_n 0, 1) := by decide +kernel
theorem dX10_feed_38 : decode cX10_feed 38 = .ok (.dup, 1) := by decide +kernel
theorem dX10_feed_39 : decode cX10_feed 39 = .ok (.getfield 170, 3) := by decide +kernel
theorem dX10_feed_42 : decode cX10_feed 42 = .ok (.iconst 1, 1) := by decide +kernel
theorem dX10_feed_43 : decode cX10_feed 43 = .ok (.iadd, 1) := by decide +kernel
theorem dX10_feed_44 : decode cX10_feed 44 = .ok (.putfield 170, 3) := by decide +kernel
theorem dX10_feed_47 : decode cX10_feed 47 = .ok (.aload_n 0, 1) := by decide +kernel
theorem dX10_feed_48 : decode cX10_feed 48 = .ok (.getfield 170, 3) := by decide +kernel
theorem dX10_feed_51 : decode cX10_feed 51 = .ok (.ireturn, 1) := by decide +kernel
set_option maxRecDepth 20000 in
theorem ggX10_isDigit_X10_in : GoodIn wsX10_isDigit wsX10_in := goodIn_r _ [6] (by decide +kernel) (by decide +kernel)
set_option maxRecDepth 20000 in
theorem gX10_isDigit_X10_in : GoodIn wsX10_isDigit (va_wsS RX10 104 yX10_in wsX10_in) := goodIn_app (goodIn_of _ (by decide +kernel)) ggX10_isDigit_X10_in
theorem dX10_isDigit_0 : decode cX10_isDigit 0 = .ok (.iload_n 1, 1) := by decide +kernel
theorem dX10_isDigit_1 : decode cX10_isDigit 1 = .ok (.aload_n 0, 1) := by decide +kernel
theorem dX10_isDigit_2 : decode cX10_isDigit 2 = .ok (.getfield 170, 3) := by decide +kernel
theorem dX10_isDigit_5 : decode cX10_isDigit 5 = .ok (.if_icmp .ge 23, 3) := by decide +kernel
theorem dX10_isDigit_8 : decode cX10_isDigit 8 = .ok (.aload_n 0, 1) := by decide +kernel
theorem dX10_isDigit_9 : decode cX10_isDigit 9 = .ok (.getfield 59, 3) := by decide +kernel
theorem dX10_isDigit_12 : decode cX10_isDigit 12 = .ok (.iload_n 1, 1) := by decide +kernel
theorem dX10_isDigit_13 : decode cX10_isDigit 13 = .ok (.caload, 1) := by decide +kernel
theorem dX10_isDigit_14 : decode cX10_isDigit 14 = .ok (.bipush 48, 2) := by decide +kernel
theorem dX10_isDigit_16 : decode cX10_isDigit 16 = .ok (.bipush 57, 2) := by decide +kernel
theorem dX10_isDigit_18 : decode cX10_isDigit 18 = .ok (.invokestatic 104, 3) := by decide +kernel
theorem dX10_isDigit_21 : decode cX10_isDigit 21 = .ok (.ifCond .eq 7, 3) := by decide +kernel
theorem dX10_isDigit_24 : decode cX10_isDigit 24 = .ok (.iconst 1, 1) := by decide +kernel
theorem dX10_isDigit_25 : decode cX10_isDigit 25 = .ok (.goto 4, 3) := by decide +kernel
theorem dX10_isDigit_28 : decode cX10_isDigit 28 = .ok (.iconst 0, 1) := by decide +kernel
theorem dX10_isDigit_29 : decode cX10_isDigit 29 = .ok (.ireturn, 1) := by decide +kernel
theorem dX10_isSign_0 : decode cX10_isSign 0 = .ok (.iload_n 1, 1) := by decide +kernel
theorem dX10_isSign_1 : decode cX10_isSign 1 = .ok (.aload_n 0, 1) := by decide +kernel
theorem dX10_isSign_2 : decode cX10_isSign 2 = .ok (.getfield 170, 3) := by decide +kernel
theorem dX10_isSign_5 : decode cX10_isSign 5 = .ok (.if_icmp .ge 17, 3) := by decide +kernel
theorem dX10_isSign_8 : decode cX10_isSign 8 = .ok (.aload_n 0, 1) := by decide +kernel
theorem dX10_isSign_9 : decode cX10_isSign 9 = .ok (.getfield 59, 3) := by decide +kernel
theorem dX10_isSign_12 : decode cX10_isSign 12 = .ok (.iload_n 1, 1) := by decide +kernel
theorem dX10_isSign_13 : decode cX10_isSign 13 = .ok (.caload, 1) := by decide +kernel
theorem dX10_isSign_14 : decode cX10_isSign 14 = .ok (.iload_n 2, 1) := by decide +kernel
theorem dX10_isSign_15 : decode cX10_isSign 15 = .ok (.if_icmp .ne 7, 3) := by decide +kernel
theorem dX10_isSign_18 : decode cX10_isSign 18 = .ok (.iconst 1, 1) := by decide +kernel
theorem dX10_isSign_19 : decode cX10_isSign 19 = .ok (.goto 4, 3) := by decide +kernel
theorem dX10_isSign_22 : decode cX10_isSign 22 = .ok (.iconst 0, 1) := by decide +kernel
theorem dX10_isSign_23 : decode cX10_isSign 23 = .ok (.ireturn, 1) := by decide +kernel
set_option maxRecDepth 20000 in
theorem ggX10_behindDigits_X10_isDigit : GoodIn wsX10_behindDigits wsX10_isDigit := goodIn_r _ [5, 6, 7, 8, 9, 4, 10, 11, 12, 13, 14, 15, 16, 17, 18, 19, 20, 21, 22, 23, 24, 25, 26, 27, 28, 29, 30, 31, 32, 33, 34, 35, 36, 37, 38, 39, 40, 41, 42, 43, 44, 45, 46, 47, 48] (by decide +kernel) (by decide +kernel)
set_option maxRecDepth 20000 in
theorem gX10_behindDigits_X10_isDigit : GoodIn wsX10_behindDigits (wsV RX10 173 RX10 yX10_isDigit wsX10_isDigit) := goodIn_app (goodIn_of _ (by decide +kernel)) ggX10_behindDigits_X10_isDigit
theorem dX10_behindDigits_0 : decode cX10_behindDigits 0 = .ok (.iload_n 1, 1) := by decide +kernel
theorem dX10_behindDigits_1 : decode cX10_behindDigits 1 = .ok (.istore_n 3, 1) := by decide +kernel
theorem dX10_behindDigits_2 : decode cX10_behindDigits 2 = .ok (.iload_n 3, 1) := by decide +kernel
theorem dX10_behindDigits_3 : decode cX10_behindDigits 3 = .ok (.iload_n 1, 1) := by decide +kernel
theorem dX10_behindDigits_4 : decode cX10_behindDigits 4 = .ok (.iload_n 2, 1) := by decide +kernel
theorem dX10_behindDigits_5 : decode cX10_behindDigits 5 = .ok (.iadd, 1) := by decide +kernel
theorem dX10_behindDigits_6 : decode cX10_behindDigits 6 = .ok (.if_icmp .ge 17, 3) := by decide +kernel
theorem dX10_behindDigits_9 : decode cX10_behindDigits 9 = .ok (.aload_n 0, 1) := by decide +kernel
theorem dX10_behindDigits_10 : decode cX10_behindDigits 10 = .ok (.iload_n 3, 1) := by decide +kernel
theorem dX10_behindDigits_11 : decode cX10_behindDigits 11 = .ok (.invokevirtual 173, 3) := by decide +kernel
theorem dX10_behindDigits_14 : decode cX10_behindDigits 14 = .ok (.ifCond .eq 9, 3) := by decide +kernel
theorem dX10_behindDigits_17 : decode cX10_behindDigits 17 = .ok (.iinc 3 1, 3) := by decide +kernel
theorem dX10_behindDigits_20 : decode cX10_behindDigits 20 = .ok (.goto (-18), 3) := by decide +kernel
theorem dX10_behindDigits_23 : decode cX10_behindDigits 23 = .ok (.iload_n 3, 1) := by decide +kernel
theorem dX10_behindDigits_24 : decode cX10_behindDigits 24 = .ok (.ireturn, 1) := by decide +kernel
theorem dX10_numberAt_0 : decode cX10_numberAt 0 = .ok (.iconst 0, 1) := by decide +kernel
theorem dX10_numberAt_1 : decode cX10_numberAt 1 = .ok (.istore_n 3, 1) := by decide +kernel
theorem dX10_numberAt_2 : decode cX10_numberAt 2 = .ok (.iload_n 1, 1) := by decide +kernel
theorem dX10_numberAt_3 : decode cX10_numberAt 3 = .ok (.istore 4, 2) := by decide +kernel
theorem dX10_numberAt_5 : decode cX10_numberAt 5 = .ok (.iload 4, 2) := by decide +kernel
theorem dX10_numberAt_7 : decode cX10_numberAt 7 = .ok (.iload_n 2, 1) := by decide +kernel
theorem dX10_numberAt_8 : decode cX10_numberAt 8 = .ok (.if_icmp .ge 25, 3) := by decide +kernel
theorem dX10_numberAt_11 : decode cX10_numberAt 11 = .ok (.bipush 10, 2) := by decide +kernel
theorem dX10_numberAt_13 : decode cX10_numberAt 13 = .ok (.iload_n 3, 1) := by decide +kernel
theorem dX10_numberAt_14 : decode cX10_numberAt 14 = .ok (.imul, 1) := by decide +kernel
theorem dX10_numberAt_15 : decode cX10_numberAt 15 = .ok (.aload_n 0, 1) := by decide +kernel
theorem dX10_numberAt_16 : decode cX10_numberAt 16 = .ok (.getfield 59, 3) := by decide +kernel
theorem dX10_numberAt_19 : decode cX10_numberAt 19 = .ok (.iload 4, 2) := by decide +kernel
theorem dX10_numberAt_21 : decode cX10_numberAt 21 = .ok (.caload, 1) := by decide +kernel
theorem dX10_numberAt_22 : decode cX10_numberAt 22 = .ok (.iadd, 1) := by decide +kernel
theorem dX10_numberAt_23 : decode cX10_numberAt 23 = .ok (.bipush 48, 2) := by decide +kernel
theorem dX10_numberAt_25 : decode cX10_numberAt 25 = .ok (.isub, 1) := by decide +kernel
theorem dX10_numberAt_26 : decode cX10_numberAt 26 = .ok (.istore_n 3, 1) := by decide +kernel
theorem dX10_numberAt_27 : decode cX10_numberAt 27 = .ok (.iinc 4 1, 3) := by decide +kernel
theorem dX10_numberAt_30 : decode cX10_numberAt 30 = .ok (.goto (-25), 3) := by decide +kernel
theorem dX10_numberAt_33 : decode cX10_numberAt 33 = .ok (.iload_n 3, 1) := by decide +kernel
theorem dX10_numberAt_34 : decode cX10_numberAt 34 = .ok (.ireturn, 1) := by decide +kernel
set_option maxRecDepth 20000 in
theorem ggX10_read_X10_isSign : GoodIn wsX10_read wsX10_isSign := goodIn_r _ [8, 3, 9, 36, 37, 38, 39, 40, 41, 42, 43, 44, 45, 46, 47, 48, 49, 50, 51, 52, 53, 54, 55, 56, 57, 58, 59, 60, 61, 62, 63, 64, 65, 66, 67, 68, 69, 70, 71, 72, 73] (by decide +kernel) (by decide +kernel)
set_option maxRecDepth 20000 in
theorem gX10_read_X10_isSign : GoodIn wsX10_read (wsV RX10 182 RX10 yX10_isSign wsX10_isSign) := goodIn_app (goodIn_of _ (by decide +kernel)) ggX10_read_X10_isSign
set_option maxRecDepth 20000 in
theorem ggX10_read_X10_behindDigits : GoodIn wsX10_read wsX10_behindDigits := goodIn_r _ [13, 14, 15, 16, 7, 17, 3, 9, 18, 19, 20, 36, 37, 38, 39, 40, 41, 42, 43, 44, 45, 46, 47, 48, 49, 50, 51, 52, 53, 54, 55, 56, 57, 58, 59, 60, 61, 62, 63, 64, 65, 66, 67, 68, 69, 70, 71, 72, 73] (by decide +kernel) (by decide +kernel)
set_option maxRecDepth 20000 in
theorem gX10_read_X10_behindDigits : GoodIn wsX10_read (wsV RX10 186 RX10 yX10_behindDigits wsX10_behindDigits) := goodIn_app (goodIn_of _ (by decide +kernel)) ggX10_read_X10_behindDigits
set_option maxRecDepth 20000 in
theorem ggX10_read_X10_numberAt : GoodIn wsX10_read wsX10_numberAt := goodIn_r _ [24, 9, 36, 37, 38, 39, 40, 41, 42, 43, 44, 45, 46, 47, 48, 49, 50, 51, 52, 53, 54, 55, 56, 57, 58, 59, 60, 61, 62, 63, 64, 65, 66, 67, 68, 69, 70, 71, 72, 73] (by decide +kernel) (by decide +kernel)
set_option maxRecDepth 20000 in
theorem gX10_read_X10_numberAt : GoodIn wsX10_read (wsV RX10 189 RX10 yX10_numberAt wsX10_numberAt) := goodIn_app (goodIn_of _ (by decide +kernel)) ggX10_read_X10_numberAt
set_option maxRecDepth 20000 in
theorem ggX10_read_X10_drop : GoodIn wsX10_read wsX10_drop := goodIn_r _ [28, 29, 30, 36, 37, 38, 39, 40, 41, 42, 43, 44, 45, 46, 47, 48, 49, 50, 51, 52, 53, 54, 55, 56, 57, 58, 59, 60, 61, 62, 63, 64, 65, 66, 67, 68, 69, 70, 71, 72, 73] (by decide +kernel) (by decide +kernel)
set_option maxRecDepth 20000 in
theorem gX10_read_X10_drop : GoodIn wsX10_read (wsV RX10 157 RX10 yX10_drop wsX10_drop) := goodIn_app (goodIn_of _ (by decide +kernel)) ggX10_read_X10_drop
set_option maxRecDepth 20000 in
theorem ggX10_read_X10_change : GoodIn wsX10_read wsX10_change := goodIn_r _ [34, 29, 30, 35, 36, 37, 38, 39, 40, 41, 42, 43, 44, 45, 46, 47, 48, 49, 50, 51, 52, 53, 54, 55, 56, 57, 58, 59, 60, 61, 62, 63, 64, 65, 66, 67, 68, 69, 70, 71, 72, 73] (by decide +kernel) (by decide +kernel)
set_option maxRecDepth 20000 in
theorem gX10_read_X10_change : GoodIn wsX10_read (wsV RX10 150 RX10 yX10_change wsX10_change) := goodIn_app (goodIn_of _ (by decide +kernel)) ggX10_read_X10_change
theorem dX10_read_0 : decode cX10_read 0 = .ok (.aload_n 0, 1) := by decide +kernel
theorem dX10_read_1 : decode cX10_read 1 = .ok (.iconst 0, 1) := by decide +kernel
theorem dX10_read_2 : decode cX10_read 2 = .ok (.putfield 176, 3) := by decide +kernel
theorem dX10_read_5 : decode cX10_read 5 = .ok (.aload_n 0, 1) := by decide +kernel
theorem dX10_read_6 : decode cX10_read 6 = .ok (.iconst (-1), 1) := by decide +kernel
theorem dX10_read_7 : decode cX10_read 7 = .ok (.putfield 179, 3) := by decide +kernel
theorem dX10_read_10 : decode cX10_read 10 = .ok (.iconst 0, 1) := by decide +kernel
theorem dX10_read_11 : decode cX10_read 11 = .ok (.istore_n 2, 1) := by decide +kernel
theorem dX10_read_12 : decode cX10_read 12 = .ok (.aload_n 0, 1) := by decide +kernel
theorem dX10_read_13 : decode cX10_read 13 = .ok (.iload_n 2, 1) := by decide +kernel
theorem dX10_read_14 : decode cX10_read 14 = .ok (.bipush 45, 2) := by decide +kernel
theorem dX10_read_16 : decode cX10_read 16 = .ok (.invokevirtual 182, 3) := by decide +kernel
theorem dX10_read_19 : decode cX10_read 19 = .ok (.istore_n 3, 1) := by decide +kernel
theorem dX10_read_20 : decode cX10_read 20 = .ok (.iload_n 2, 1) := by decide +kernel
theorem dX10_read_21 : decode cX10_read 21 = .ok (.iload_n 3, 1) := by decide +kernel
theorem dX10_read_22 : decode cX10_read 22 = .ok (.ifCond .eq 7, 3) := by decide +kernel
theorem dX10_read_25 : decode cX10_read 25 = .ok (.iconst 1, 1) := by decide +kernel
theorem dX10_read_26 : decode cX10_read 26 = .ok (.goto 4, 3) := by decide +kernel
theorem dX10_read_29 : decode cX10_read 29 = .ok (.iconst 0, 1) := by decide +kernel
theorem dX10_read_30 : decode cX10_read 30 = .ok (.iadd, 1) := by decide +kernel
theorem dX10_read_31 : decode cX10_read 31 = .ok (.istore_n 2, 1) := by decide +kernel
theorem dX10_read_32 : decode cX10_read 32 = .ok (.iload_n 2, 1) := by decide +kernel
theorem dX10_read_33 : decode cX10_read 33 = .ok (.istore 4, 2) := by decide +kernel
theorem dX10_read_35 : decode cX10_read 35 = .ok (.aload_n 0, 1) := by decide +kernel
theorem dX10_read_36 : decode cX10_read 36 = .ok (.iload_n 2, 1) := by decide +kernel
theorem dX10_read_37 : decode cX10_read 37 = .ok (.iconst 2, 1) := by decide +kernel
theorem dX10_read_38 : decode cX10_read 38 = .ok (.invokevirtual 186, 3) := by decide +kernel
theorem dX10_read_41 : decode cX10_read 41 = .ok (.istore_n 2, 1) := by decide +kernel
theorem dX10_read_42 : decode cX10_read 42 = .ok (.iload_n 2, 1) := by decide +kernel
theorem dX10_read_43 : decode cX10_read 43 = .ok (.iload 4, 2) := by decide +kernel
theorem dX10_read_45 : decode cX10_read 45 = .ok (.if_icmp .ne 5, 3) := by decide +kernel
theorem dX10_read_48 : decode cX10_read 48 = .ok (.iload_n 2, 1) := by decide +kernel
theorem dX10_read_49 : decode cX10_read 49 = .ok (.ireturn, 1) := by decide +kernel
theorem dX10_read_50 : decode cX10_read 50 = .ok (.aload_n 0, 1) := by decide +kernel
theorem dX10_read_51 : decode cX10_read 51 = .ok (.iload 4, 2) := by decide +kernel
theorem dX10_read_53 : decode cX10_read 53 = .ok (.iload_n 2, 1) := by decide +kernel
theorem dX10_read_54 : decode cX10_read 54 = .ok (.invokevirtual 189, 3) := by decide +kernel
theorem dX10_read_57 : decode cX10_read 57 = .ok (.istore 5, 2) := by decide +kernel
theorem dX10_read_59 : decode cX10_read 59 = .ok (.aload_n 0, 1) := by decide +kernel
theorem dX10_read_60 : decode cX10_read 60 = .ok (.aload_n 0, 1) := by decide +kernel
theorem dX10_read_61 : decode cX10_read 61 = .ok (.getfield 179, 3) := by decide +kernel
theorem dX10_read_64 : decode cX10_read 64 = .ok (.ifCond .ge 15, 3) := by decide +kernel
theorem dX10_read_67 : decode cX10_read 67 = .ok (.iload 5, 2) := by decide +kernel
theorem dX10_read_69 : decode cX10_read 69 = .ok (.bipush 64, 2) := by decide +kernel
theorem dX10_read_71 : decode cX10_read 71 = .ok (.if_icmp .lt 8, 3) := by decide +kernel
theorem dX10_read_74 : decode cX10_read 74 = .ok (.iload 4, 2) := by decide +kernel
theorem dX10_read_76 : decode cX10_read 76 = .ok (.goto 7, 3) := by decide +kernel
theorem dX10_read_79 : decode cX10_read 79 = .ok (.aload_n 0, 1) := by decide +kernel
theorem dX10_read_80 : decode cX10_read 80 = .ok (.getfield 179, 3) := by decide +kernel
theorem dX10_read_83 : decode cX10_read 83 = .ok (.putfield 179, 3) := by decide +kernel
theorem dX10_read_86 : decode cX10_read 86 = .ok (.iconst 0, 1) := by decide +kernel
theorem dX10_read_87 : decode cX10_read 87 = .ok (.istore 6, 2) := by decide +kernel
theorem dX10_read_89 : decode cX10_read 89 = .ok (.iload_n 3, 1) := by decide +kernel
theorem dX10_read_90 : decode cX10_read 90 = .ok (.ifCond .ne 83, 3) := by decide +kernel
theorem dX10_read_93 : decode cX10_read 93 = .ok (.aload_n 0, 1) := by decide +kernel
theorem dX10_read_94 : decode cX10_read 94 = .ok (.iload_n 2, 1) := by decide +kernel
theorem dX10_read_95 : decode cX10_read 95 = .ok (.bipush 61, 2) := by decide +kernel
theorem dX10_read_97 : decode cX10_read 97 = .ok (.invokevirtual 182, 3) := by decide +kernel
theorem dX10_read_100 : decode cX10_read 100 = .ok (.ifCond .ne 5, 3) := by decide +kernel
theorem dX10_read_103 : decode cX10_read 103 = .ok (.iload_n 2, 1) := by decide +kernel
theorem dX10_read_104 : decode cX10_read 104 = .ok (.ireturn, 1) := by decide +kernel
theorem dX10_read_105 : decode cX10_read 105 = .ok (.iinc 2 1, 3) := by decide +kernel
theorem dX10_read_108 : decode cX10_read 108 = .ok (.aload_n 0, 1) := by decide +kernel
theorem dX10_read_109 : decode cX10_read 109 = .ok (.iload_n 2, 1) := by decide +kernel
theorem dX10_read_110 : decode cX10_read 110 = .ok (.bipush 45, 2) := by decide +kernel
theorem dX10_read_112 : decode cX10_read 112 = .ok (.invokevirtual 182, 3) := by decide +kernel
theorem dX10_read_115 : decode cX10_read 115 = .ok (.istore 7, 2) := by decide +kernel
theorem dX10_read_117 : decode cX10_read 117 = .ok (.iload_n 2, 1) := by decide +kernel
theorem dX10_read_118 : decode cX10_read 118 = .ok (.iload 7, 2) := by decide +kernel
theorem dX10_read_120 : decode cX10_read 120 = .ok (.ifCond .eq 7, 3) := by decide +kernel
theorem dX10_read_123 : decode cX10_read 123 = .ok (.iconst 1, 1) := by decide +kernel
theorem dX10_read_124 : decode cX10_read 124 = .ok (.goto 4, 3) := by decide +kernel
theorem dX10_read_127 : decode cX10_read 127 = .ok (.iconst 0, 1) := by decide +kernel
theorem dX10_read_128 : decode cX10_read 128 = .ok (.iadd, 1) := by decide +kernel
theorem dX10_read_129 : decode cX10_read 129 = .ok (.istore_n 2, 1) := by decide +kernel
theorem dX10_read_130 : decode cX10_read 130 = .ok (.iload_n 2, 1) := by decide +kernel
theorem dX10_read_131 : decode cX10_read 131 = .ok (.istore 8, 2) := by decide +kernel
theorem dX10_read_133 : decode cX10_read 133 = .ok (.aload_n 0, 1) := by decide +kernel
theorem dX10_read_134 : decode cX10_read 134 = .ok (.iload_n 2, 1) := by decide +kernel
theorem dX10_read_135 : decode cX10_read 135 = .ok (.iconst 4, 1) := by decide +kernel
theorem dX10_read_136 : decode cX10_read 136 = .ok (.invokevirtual 186, 3) := by decide +kernel
theorem dX10_read_139 : decode cX10_read 139 = .ok (.istore_n 2, 1) := by decide +kernel
theorem dX10_read_140 : decode cX10_read 140 = .ok (.iload_n 2, 1) := by decide +kernel
theorem dX10_read_141 : decode cX10_read 141 = .ok (.iload 8, 2) := by decide +kernel
theorem dX10_read_143 : decode cX10_read 143 = .ok (.if_icmp .ne 5, 3) := by decide +kernel
theorem dX10_read_146 : decode cX10_read 146 = .ok (.iload_n 2, 1) := by decide +kernel
theorem dX10_read_147 : decode cX10_read 147 = .ok (.ireturn, 1) := by decide +kernel
theorem dX10_read_148 : decode cX10_read 148 = .ok (.iload 7, 2) := by decide +kernel
theorem dX10_read_150 : decode cX10_read 150 = .ok (.ifCond .eq 14, 3) := by decide +kernel
theorem dX10_read_153 : decode cX10_read 153 = .ok (.aload_n 0, 1) := by decide +kernel
theorem dX10_read_154 : decode cX10_read 154 = .ok (.iload 8, 2) := by decide +kernel
theorem dX10_read_156 : decode cX10_read 156 = .ok (.iload_n 2, 1) := by decide +kernel
theorem dX10_read_157 : decode cX10_read 157 = .ok (.invokevirtual 189, 3) := by decide +kernel
theorem dX10_read_160 : decode cX10_read 160 = .ok (.ineg, 1) := by decide +kernel
theorem dX10_read_161 : decode cX10_read 161 = .ok (.goto 10, 3) := by decide +kernel
theorem dX10_read_164 : decode cX10_read 164 = .ok (.aload_n 0, 1) := by decide +kernel
theorem dX10_read_165 : decode cX10_read 165 = .ok (.iload 8, 2) := by decide +kernel
theorem dX10_read_167 : decode cX10_read 167 = .ok (.iload_n 2, 1) := by decide +kernel
theorem dX10_read_168 : decode cX10_read 168 = .ok (.invokevirtual 189, 3) := by decide +kernel
theorem dX10_read_171 : decode cX10_read 171 = .ok (.istore 6, 2) := by decide +kernel
theorem dX10_read_173 : decode cX10_read 173 = .ok (.aload_n 0, 1) := by decide +kernel
theorem dX10_read_174 : decode cX10_read 174 = .ok (.dup, 1) := by decide +kernel
theorem dX10_read_175 : decode cX10_read 175 = .ok (.getfield 176, 3) := by decide +kernel
theorem dX10_read_178 : decode cX10_read 178 = .ok (.iconst 1, 1) := by decide +kernel
theorem dX10_read_179 : decode cX10_read 179 = .ok (.iadd, 1) := by decide +kernel
theorem dX10_read_180 : decode cX10_read 180 = .ok (.putfield 176, 3) := by decide +kernel
theorem dX10_read_183 : decode cX10_read 183 = .ok (.iload_n 1, 1) := by decide +kernel
theorem dX10_read_184 : decode cX10_read 184 = .ok (.ifCond .lt 26, 3) := by decide +kernel
theorem dX10_read_187 : decode cX10_read 187 = .ok (.iload_n 3, 1) := by decide +kernel
theorem dX10_read_188 : decode cX10_read 188 = .ok (.ifCond .eq 13, 3) := by decide +kernel
theorem dX10_read_191 : decode cX10_read 191 = .ok (.aload_n 0, 1) := by decide +kernel
theorem dX10_read_192 : decode cX10_read 192 = .ok (.iload_n 1, 1) := by decide +kernel
theorem dX10_read_193 : decode cX10_read 193 = .ok (.iload 5, 2) := by decide +kernel
theorem dX10_read_195 : decode cX10_read 195 = .ok (.invokevirtual 157, 3) := by decide +kernel
theorem dX10_read_198 : decode cX10_read 198 = .ok (.goto 12, 3) := by decide +kernel
theorem dX10_read_201 : decode cX10_read 201 = .ok (.aload_n 0, 1) := by decide +kernel
theorem dX10_read_202 : decode cX10_read 202 = .ok (.iload_n 1, 1) := by decide +kernel
theorem dX10_read_203 : decode cX10_read 203 = .ok (.iload 5, 2) := by decide +kernel
theorem dX10_read_205 : decode cX10_read 205 = .ok (.iload 6, 2) := by decide +kernel
theorem dX10_read_207 : decode cX10_read 207 = .ok (.invokevirtual 150, 3) := by decide +kernel
theorem dX10_read_210 : decode cX10_read 210 = .ok (.iload_n 2, 1) := by decide +kernel
theorem dX10_read_211 : decode cX10_read 211 = .ok (.aload_n 0, 1) := by decide +kernel
theorem dX10_read_212 : decode cX10_read 212 = .ok (.getfield 170, 3) := by decide +kernel
theorem dX10_read_215 : decode cX10_read 215 = .ok (.if_icmp .ne 5, 3) := by decide +kernel
theorem dX10_read_218 : decode cX10_read 218 = .ok (.iconst (-1), 1) := by decide +kernel
theorem dX10_read_219 : decode cX10_read 219 = .ok (.ireturn, 1) := by decide +kernel
theorem dX10_read_220 : decode cX10_read 220 = .ok (.aload_n 0, 1) := by decide +kernel
theorem dX10_read_221 : decode cX10_read 221 = .ok (.iload_n 2, 1) := by decide +kernel
theorem dX10_read_222 : decode cX10_read 222 = .ok (.bipush 44, 2) := by decide +kernel
theorem dX10_read_224 : decode cX10_read 224 = .ok (.invokevirtual 182, 3) := by decide +kernel
theorem dX10_read_227 : decode cX10_read 227 = .ok (.ifCond .ne 5, 3) := by decide +kernel
theorem dX10_read_230 : decode cX10_read 230 = .ok (.iload_n 2, 1) := by decide +kernel
theorem dX10_read_231 : decode cX10_read 231 = .ok (.ireturn, 1) := by decide +kernel
theorem dX10_read_232 : decode cX10_read 232 = .ok (.iinc 2 1, 3) := by decide +kernel
theorem dX10_read_235 : decode cX10_read 235 = .ok (.goto (-223), 3) := by decide +kernel
set_option maxRecDepth 20000 in
theorem ggX10_readChanges_X10_isSlot : GoodIn wsX10_readChanges wsX10_isSlot := goodIn_r _ [9, 10, 11, 8, 12] (by decide +kernel) (by decide +kernel)
set_option maxRecDepth 20000 in
theorem gX10_readChanges_X10_isSlot : GoodIn wsX10_readChanges (va_wsS RX10 139 yX10_isSlot wsX10_isSlot) := goodIn_app (goodIn_of _ (by decide +kernel)) ggX10_readChanges_X10_isSlot
set_option maxRecDepth 20000 in
theorem ggX10_readChanges_X10_read : GoodIn wsX10_readChanges wsX10_read := goodIn_r _ [16, 4, 3, 5, 17, 18, 19, 8, 20, 21, 22, 23, 24, 25, 26, 27, 28, 29, 10, 11, 12, 30, 31, 32, 33, 34, 35, 36, 37, 38, 39, 40, 41, 42, 43, 44, 45, 46, 47, 48, 49, 50, 51, 52, 53, 54, 55, 56, 57, 58, 59, 60, 61, 62, 63, 64, 65, 66, 67, 68, 69, 70, 71, 72, 73, 74, 75, 76, 77, 78, 79, 80, 81, 82] (by decide +kernel) (by decide +kernel)
set_option maxRecDepth 20000 in
theorem gX10_readChanges_X10_read : GoodIn wsX10_readChanges (wsV RX10 192 RX10 yX10_read wsX10_read) := goodIn_app (goodIn_of _ (by decide +kernel)) ggX10_readChanges_X10_read
theorem dX10_readChanges_0 : decode cX10_readChanges 0 = .ok (.aload_n 0, 1) := by decide +kernel
theorem dX10_readChanges_1 : decode cX10_readChanges 1 = .ok (.iload_n 1, 1) := by decide +kernel
theorem dX10_readChanges_2 : decode cX10_readChanges 2 = .ok (.invokestatic 139, 3) := by decide +kernel
theorem dX10_readChanges_5 : decode cX10_readChanges 5 = .ok (.ifCond .ne 7, 3) := by decide +kernel
theorem dX10_readChanges_8 : decode cX10_readChanges 8 = .ok (.iconst 1, 1) := by decide +kernel
theorem dX10_readChanges_9 : decode cX10_readChanges 9 = .ok (.goto 18, 3) := by decide +kernel
theorem dX10_readChanges_12 : decode cX10_readChanges 12 = .ok (.aload_n 0, 1) := by decide +kernel
theorem dX10_readChanges_13 : decode cX10_readChanges 13 = .ok (.getfield 32, 3) := by decide +kernel
theorem dX10_readChanges_16 : decode cX10_readChanges 16 = .ok (.iload_n 1, 1) := by decide +kernel
theorem dX10_readChanges_17 : decode cX10_readChanges 17 = .ok (.iaload, 1) := by decide +kernel
theorem dX10_readChanges_18 : decode cX10_readChanges 18 = .ok (.iconst 1, 1) := by decide +kernel
theorem dX10_readChanges_19 : decode cX10_readChanges 19 = .ok (.if_icmp .eq 7, 3) := by decide +kernel
theorem dX10_readChanges_22 : decode cX10_readChanges 22 = .ok (.iconst 2, 1) := by decide +kernel
theorem dX10_readChanges_23 : decode cX10_readChanges 23 = .ok (.goto 4, 3) := by decide +kernel
theorem dX10_readChanges_26 : decode cX10_readChanges 26 = .ok (.iconst 0, 1) := by decide +kernel
theorem dX10_readChanges_27 : decode cX10_readChanges 27 = .ok (.putfield 100, 3) := by decide +kernel
theorem dX10_readChanges_30 : decode cX10_readChanges 30 = .ok (.iconst 0, 1) := by decide +kernel
theorem dX10_readChanges_31 : decode cX10_readChanges 31 = .ok (.istore_n 2, 1) := by decide +kernel
theorem dX10_readChanges_32 : decode cX10_readChanges 32 = .ok (.aload_n 0, 1) := by decide +kernel
theorem dX10_readChanges_33 : decode cX10_readChanges 33 = .ok (.getfield 100, 3) := by decide +kernel
theorem dX10_readChanges_36 : decode cX10_readChanges 36 = .ok (.ifCond .ne 45, 3) := by decide +kernel
theorem dX10_readChanges_39 : decode cX10_readChanges 39 = .ok (.aload_n 0, 1) := by decide +kernel
theorem dX10_readChanges_40 : decode cX10_readChanges 40 = .ok (.iconst (-1), 1) := by decide +kernel
theorem dX10_readChanges_41 : decode cX10_readChanges 41 = .ok (.invokevirtual 192, 3) := by decide +kernel
theorem dX10_readChanges_44 : decode cX10_readChanges 44 = .ok (.istore_n 3, 1) := by decide +kernel
theorem dX10_readChanges_45 : decode cX10_readChanges 45 = .ok (.iload_n 3, 1) := by decide +kernel
theorem dX10_readChanges_46 : decode cX10_readChanges 46 = .ok (.ifCond .ge 10, 3) := by decide +kernel
theorem dX10_readChanges_49 : decode cX10_readChanges 49 = .ok (.aload_n 0, 1) := by decide +kernel
theorem dX10_readChanges_50 : decode cX10_readChanges 50 = .ok (.getfield 179, 3) := by decide +kernel
theorem dX10_readChanges_53 : decode cX10_readChanges 53 = .ok (.goto 4, 3) := by decide +kernel
theorem dX10_readChanges_56 : decode cX10_readChanges 56 = .ok (.iload_n 3, 1) := by decide +kernel
theorem dX10_readChanges_57 : decode cX10_readChanges 57 = .ok (.istore_n 3, 1) := by decide +kernel
theorem dX10_readChanges_58 : decode cX10_readChanges 58 = .ok (.iload_n 3, 1) := by decide +kernel
theorem dX10_readChanges_59 : decode cX10_readChanges 59 = .ok (.ifCond .ge 17, 3) := by decide +kernel
theorem dX10_readChanges_62 : decode cX10_readChanges 62 = .ok (.aload_n 0, 1) := by decide +kernel
theorem dX10_readChanges_63 : decode cX10_readChanges 63 = .ok (.iload_n 1, 1) := by decide +kernel
theorem dX10_readChanges_64 : decode cX10_readChanges 64 = .ok (.invokevirtual 192, 3) := by decide +kernel
theorem dX10_readChanges_67 : decode cX10_readChanges 67 = .ok (.istore_n 3, 1) := by decide +kernel
theorem dX10_readChanges_68 : decode cX10_readChanges 68 = .ok (.aload_n 0, 1) := by decide +kernel
theorem dX10_readChanges_69 : decode cX10_readChanges 69 = .ok (.getfield 176, 3) := by decide +kernel
theorem dX10_readChanges_72 : decode cX10_readChanges 72 = .ok (.istore_n 2, 1) := by decide +kernel
theorem dX10_readChanges_73 : decode cX10_readChanges 73 = .ok (.goto 8, 3) := by decide +kernel
theorem dX10_readChanges_76 : decode cX10_readChanges 76 = .ok (.bipush (-100), 2) := by decide +kernel
theorem dX10_readChanges_78 : decode cX10_readChanges 78 = .ok (.iload_n 3, 1) := by decide +kernel
theorem dX10_readChanges_79 : decode cX10_readChanges 79 = .ok (.isub, 1) := by decide +kernel
theorem dX10_readChanges_80 : decode cX10_readChanges 80 = .ok (.istore_n 2, 1) := by decide +kernel
theorem dX10_readChanges_81 : decode cX10_readChanges 81 = .ok (.aload_n 0, 1) := by decide +kernel
theorem dX10_readChanges_82 : decode cX10_readChanges 82 = .ok (.iconst 0, 1) := by decide +kernel
theorem dX10_readChanges_83 : decode cX10_readChanges 83 = .ok (.putfield 170, 3) := by decide +kernel
theorem dX10_readChanges_86 : decode cX10_readChanges 86 = .ok (.iload_n 2, 1) := by decide +kernel
theorem dX10_readChanges_87 : decode cX10_readChanges 87 = .ok (.ireturn, 1) := by decide +kernel
theorem dX10_say_0 : decode cX10_say 0 = .ok (.aload_n 0, 1) := by decide +kernel
theorem dX10_say_1 : decode cX10_say 1 = .ok (.getfield 63, 3) := by decide +kernel
theorem dX10_say_4 : decode cX10_say 4 = .ok (.aload_n 0, 1) := by decide +kernel
theorem dX10_say_5 : decode cX10_say 5 = .ok (.getfield 195, 3) := by decide +kernel
theorem dX10_say_8 : decode cX10_say 8 = .ok (.iload_n 1, 1) := by decide +kernel
theorem dX10_say_9 : decode cX10_say 9 = .ok (.castore, 1) := by decide +kernel
theorem dX10_say_10 : decode cX10_say 10 = .ok (.aload_n 0, 1) := by decide +kernel
theorem dX10_say_11 : decode cX10_say 11 = .ok (.dup, 1) := by decide +kernel
theorem dX10_say_12 : decode cX10_say 12 = .ok (.getfield 195, 3) := by decide +kernel
theorem dX10_say_15 : decode cX10_say 15 = .ok (.iconst 1, 1) := by decide +kernel
theorem dX10_say_16 : decode cX10_say 16 = .ok (.iadd, 1) := by decide +kernel
theorem dX10_say_17 : decode cX10_say 17 = .ok (.putfield 195, 3) := by decide +kernel
theorem dX10_say_20 : decode cX10_say 20 = .ok (.return_, 1) := by decide +kernel
set_option maxRecDepth 20000 in
theorem ggX10_sayDigits_X10_sayDigits : GoodIn wsX10_sayDigits wsX10_sayDigits := goodIn_r _ [0, 1, 2, 3, 4, 5, 6, 7, 8, 9, 10, 11, 12, 13, 14, 15, 16, 17, 18, 19, 20, 21, 22, 23, 24, 25, 26, 27, 28, 29, 30, 31, 32, 33, 34, 35, 36, 37, 38, 39, 40, 41, 42, 43, 44, 45, 46, 47, 48] (by decide +kernel) (by decide +kernel)
set_option maxRecDepth 20000 in
theorem gX10_sayDigits_X10_sayDigits : GoodIn wsX10_sayDigits (wsV RX10 198 RX10 yX10_sayDigits wsX10_sayDigits) := goodIn_app (goodIn_of _ (by decide +kernel)) ggX10_sayDigits_X10_sayDigits
set_option maxRecDepth 20000 in
theorem ggX10_sayDigits_X10_say : GoodIn wsX10_sayDigits wsX10_say := goodIn_r _ [8, 9, 10, 11, 12, 13, 14, 15, 16, 17, 18, 19, 20, 21, 22, 23, 24, 25, 26, 27, 28, 29, 30, 31, 32, 33, 34, 35, 36, 37, 38, 39, 40, 41, 42, 43, 44, 45, 46, 47, 48] (by decide +kernel) (by decide +kernel)
set_option maxRecDepth 20000 in
theorem gX10_sayDigits_X10_say : GoodIn wsX10_sayDigits (wsV RX10 201 RX10 yX10_say wsX10_say) := goodIn_app (goodIn_of _ (by decide +kernel)) ggX10_sayDigits_X10_say
theorem dX10_sayDigits_0 : decode cX10_sayDigits 0 = .ok (.iload_n 1, 1) := by decide +kernel
theorem dX10_sayDigits_1 : decode cX10_sayDigits 1 = .ok (.bipush (-10), 2) := by decide +kernel
theorem dX10_sayDigits_3 : decode cX10_sayDigits 3 = .ok (.if_icmp .gt 11, 3) := by decide +kernel
theorem dX10_sayDigits_6 : decode cX10_sayDigits 6 = .ok (.aload_n 0, 1) := by decide +kernel
theorem dX10_sayDigits_7 : decode cX10_sayDigits 7 = .ok (.iload_n 1, 1) := by decide +kernel
theorem dX10_sayDigits_8 : decode cX10_sayDigits 8 = .ok (.bipush 10, 2) := by decide +kernel
theorem dX10_sayDigits_10 : decode cX10_sayDigits 10 = .ok (.idiv, 1) := by decide +kernel
theorem dX10_sayDigits_11 : decode cX10_sayDigits 11 = .ok (.invokevirtual 198, 3) := by decide +kernel
theorem dX10_sayDigits_14 : decode cX10_sayDigits 14 = .ok (.aload_n 0, 1) := by decide +kernel
theorem dX10_sayDigits_15 : decode cX10_sayDigits 15 = .ok (.bipush 48, 2) := by decide +kernel
theorem dX10_sayDigits_17 : decode cX10_sayDigits 17 = .ok (.iload_n 1, 1) := by decide +kernel
theorem dX10_sayDigits_18 : decode cX10_sayDigits 18 = .ok (.bipush 10, 2) := by decide +kernel
theorem dX10_sayDigits_20 : decode cX10_sayDigits 20 = .ok (.irem, 1) := by decide +kernel
theorem dX10_sayDigits_21 : decode cX10_sayDigits 21 = .ok (.isub, 1) := by decide +kernel
theorem dX10_sayDigits_22 : decode cX10_sayDigits 22 = .ok (.i2c, 1) := by decide +kernel
theorem dX10_sayDigits_23 : decode cX10_sayDigits 23 = .ok (.invokevirtual 201, 3) := by decide +kernel
theorem dX10_sayDigits_26 : decode cX10_sayDigits 26 = .ok (.return_, 1) := by decide +kernel
set_option maxRecDepth 20000 in
theorem ggX10_sayNumber_X10_say : GoodIn wsX10_sayNumber wsX10_say := goodIn_r _ [5, 6, 7, 12, 13, 14, 15, 16, 17, 18, 19, 20, 21, 22, 23, 24, 25, 26, 27, 28, 29, 30, 31, 32, 33, 34, 35, 36, 37, 38, 39, 40, 41, 42, 43, 44, 45, 46, 47, 48, 49] (by decide +kernel) (by decide +kernel)
set_option maxRecDepth 20000 in
theorem gX10_sayNumber_X10_say : GoodIn wsX10_sayNumber (wsV RX10 201 RX10 yX10_say wsX10_say) := goodIn_app (goodIn_of _ (by decide +kernel)) ggX10_sayNumber_X10_say
set_option maxRecDepth 20000 in
theorem ggX10_sayNumber_X10_sayDigits : GoodIn wsX10_sayNumber wsX10_sayDigits := goodIn_r _ [11, 8, 9, 10, 4, 1, 2, 3, 5, 6, 7, 12, 13, 14, 15, 16, 17, 18, 19, 20, 21, 22, 23, 24, 25, 26, 27, 28, 29, 30, 31, 32, 33, 34, 35, 36, 37, 38, 39, 40, 41, 42, 43, 44, 45, 46, 47, 48, 49] (by decide +kernel) (by decide +kernel)
set_option maxRecDepth 20000 in
theorem gX10_sayNumber_X10_sayDigits : GoodIn wsX10_sayNumber (wsV RX10 198 RX10 yX10_sayDigits wsX10_sayDigits) := goodIn_app (goodIn_of _ (by decide +kernel)) ggX10_sayNumber_X10_sayDigits
theorem dX10_sayNumber_0 : decode cX10_sayNumber 0 = .ok (.iload_n 1, 1) := by decide +kernel
theorem dX10_sayNumber_1 : decode cX10_sayNumber 1 = .ok (.ifCond .ge 9, 3) := by decide +kernel
theorem dX10_sayNumber_4 : decode cX10_sayNumber 4 = .ok (.aload_n 0, 1) := by decide +kernel
theorem dX10_sayNumber_5 : decode cX10_sayNumber 5 = .ok (.bipush 45, 2) := by decide +kernel
theorem dX10_sayNumber_7 : decode cX10_sayNumber 7 = .ok (.invokevirtual 201, 3) := by decide +kernel
theorem dX10_sayNumber_10 : decode cX10_sayNumber 10 = .ok (.aload_n 0, 1) := by decide +kernel
theorem dX10_sayNumber_11 : decode cX10_sayNumber 11 = .ok (.iload_n 1, 1) := by decide +kernel
theorem dX10_sayNumber_12 : decode cX10_sayNumber 12 = .ok (.ifCond .ge 7, 3) := by decide +kernel
theorem dX10_sayNumber_15 : decode cX10_sayNumber 15 = .ok (.iload_n 1, 1) := by decide +kernel
theorem dX10_sayNumber_16 : decode cX10_sayNumber 16 = .ok (.goto 5, 3) := by decide +kernel
theorem dX10_sayNumber_19 : decode cX10_sayNumber 19 = .ok (.iload_n 1, 1) := by decide +kernel
theorem dX10_sayNumber_20 : decode cX10_sayNumber 20 = .ok (.ineg, 1) := by decide +kernel
theorem dX10_sayNumber_21 : decode cX10_sayNumber 21 = .ok (.invokevirtual 198, 3) := by decide +kernel
theorem dX10_sayNumber_24 : decode cX10_sayNumber 24 = .ok (.return_, 1) := by decide +kernel
set_option maxRecDepth 20000 in
theorem ggX10_sayEntry_X10_say : GoodIn wsX10_sayEntry wsX10_say := goodIn_r _ [6, 7, 1, 16, 17, 18, 19, 20, 21, 22, 23, 24, 25, 26, 27, 28, 29, 30, 31, 32, 33, 34, 35, 36, 37, 38, 39, 40, 41, 42, 43, 44, 45, 46, 47, 48, 49, 50, 51, 52, 53] (by decide +kernel) (by decide +kernel)
set_option maxRecDepth 20000 in
theorem gX10_sayEntry_X10_say : GoodIn wsX10_sayEntry (wsV RX10 201 RX10 yX10_say wsX10_say) := goodIn_app (goodIn_of _ (by decide +kernel)) ggX10_sayEntry_X10_say
set_option maxRecDepth 20000 in
theorem ggX10_sayEntry_X10_sayNumber : GoodIn wsX10_sayEntry wsX10_sayNumber := goodIn_r _ [11, 2, 3, 4, 5, 6, 7, 1, 12, 13, 14, 15, 16, 17, 18, 19, 20, 21, 22, 23, 24, 25, 26, 27, 28, 29, 30, 31, 32, 33, 34, 35, 36, 37, 38, 39, 40, 41, 42, 43, 44, 45, 46, 47, 48, 49, 50, 51, 52, 53] (by decide +kernel) (by decide +kernel)
set_option maxRecDepth 20000 in
theorem gX10_sayEntry_X10_sayNumber : GoodIn wsX10_sayEntry (wsV RX10 205 RX10 yX10_sayNumber wsX10_sayNumber) := goodIn_app (goodIn_of _ (by decide +kernel)) ggX10_sayEntry_X10_sayNumber
theorem dX10_sayEntry_0 : decode cX10_sayEntry 0 = .ok (.aload_n 0, 1) := by decide +kernel
theorem dX10_sayEntry_1 : decode cX10_sayEntry 1 = .ok (.getfield 195, 3) := by decide +kernel
theorem dX10_sayEntry_4 : decode cX10_sayEntry 4 = .ok (.ifCond .le 9, 3) := by decide +kernel
theorem dX10_sayEntry_7 : decode cX10_sayEntry 7 = .ok (.aload_n 0, 1) := by decide +kernel
theorem dX10_sayEntry_8 : decode cX10_sayEntry 8 = .ok (.bipush 44, 2) := by decide +kernel
theorem dX10_sayEntry_10 : decode cX10_sayEntry 10 = .ok (.invokevirtual 201, 3) := by decide +kernel
theorem dX10_sayEntry_13 : decode cX10_sayEntry 13 = .ok (.iload_n 2, 1) := by decide +kernel
theorem dX10_sayEntry_14 : decode cX10_sayEntry 14 = .ok (.ifCond .eq 9, 3) := by decide +kernel
theorem dX10_sayEntry_17 : decode cX10_sayEntry 17 = .ok (.aload_n 0, 1) := by decide +kernel
theorem dX10_sayEntry_18 : decode cX10_sayEntry 18 = .ok (.bipush 45, 2) := by decide +kernel
theorem dX10_sayEntry_20 : decode cX10_sayEntry 20 = .ok (.invokevirtual 201, 3) := by decide +kernel
theorem dX10_sayEntry_23 : decode cX10_sayEntry 23 = .ok (.aload_n 0, 1) := by decide +kernel
theorem dX10_sayEntry_24 : decode cX10_sayEntry 24 = .ok (.iload_n 1, 1) := by decide +kernel
theorem dX10_sayEntry_25 : decode cX10_sayEntry 25 = .ok (.invokevirtual 205, 3) := by decide +kernel
theorem dX10_sayEntry_28 : decode cX10_sayEntry 28 = .ok (.iload_n 2, 1) := by decide +kernel
theorem dX10_sayEntry_29 : decode cX10_sayEntry 29 = .ok (.ifCond .ne 14, 3) := by decide +kernel
theorem dX10_sayEntry_32 : decode cX10_sayEntry 32 = .ok (.aload_n 0, 1) := by decide +kernel
theorem dX10_sayEntry_33 : decode cX10_sayEntry 33 = .ok (.bipush 61, 2) := by decide +kernel
theorem dX10_sayEntry_35 : decode cX10_sayEntry 35 = .ok (.invokevirtual 201, 3) := by decide +kernel
theorem dX10_sayEntry_38 : decode cX10_sayEntry 38 = .ok (.aload_n 0, 1) := by decide +kernel
theorem dX10_sayEntry_39 : decode cX10_sayEntry 39 = .ok (.iload_n 3, 1) := by decide +kernel
theorem dX10_sayEntry_40 : decode cX10_sayEntry 40 = .ok (.invokevirtual 205, 3) := by decide +kernel
theorem dX10_sayEntry_43 : decode cX10_sayEntry 43 = .ok (.return_, 1) := by decide +kernel
set_option maxRecDepth 20000 in
theorem ggX10_writeChanges_X10_isSlot : GoodIn wsX10_writeChanges wsX10_isSlot := goodIn_r _ [10, 11, 12, 9, 13] (by decide +kernel) (by decide +kernel)
set_option maxRecDepth 20000 in
theorem gX10_writeChanges_X10_isSlot : GoodIn wsX10_writeChanges (va_wsS RX10 139 yX10_isSlot wsX10_isSlot) := goodIn_app (goodIn_of _ (by decide +kernel)) ggX10_writeChanges_X10_isSlot
set_option maxRecDepth 20000 in
theorem ggX10_writeChanges_X10_sayEntry : GoodIn wsX10_writeChanges wsX10_sayEntry := goodIn_r _ [17, 3, 18, 19, 20, 9, 21, 22, 23, 24, 25, 26, 27, 28, 29, 30, 31, 32, 33, 34, 35, 36, 37, 38, 39, 40, 41, 42, 43, 44, 45, 46, 47, 48, 49, 50, 51, 52, 53, 54, 55, 56, 57, 58, 59, 60, 61, 62, 63, 64, 65, 66, 67, 68] (by decide +kernel) (by decide +kernel)
set_option maxRecDepth 20000 in
theorem gX10_writeChanges_X10_sayEntry : GoodIn wsX10_writeChanges (wsV RX10 208 RX10 yX10_sayEntry wsX10_sayEntry) := goodIn_app (goodIn_of _ (by decide +kernel)) ggX10_writeChanges_X10_sayEntry
theorem dX10_writeChanges_0 : decode cX10_writeChanges 0 = .ok (.aload_n 0, 1) := by decide +kernel
theorem dX10_writeChanges_1 : decode cX10_writeChanges 1 = .ok (.iload_n 1, 1) := by decide +kernel
theorem dX10_writeChanges_2 : decode cX10_writeChanges 2 = .ok (.invokestatic 139, 3) := by decide +kernel
theorem dX10_writeChanges_5 : decode cX10_writeChanges 5 = .ok (.ifCond .ne 7, 3) := by decide +kernel
theorem dX10_writeChanges_8 : decode cX10_writeChanges 8 = .ok (.iconst 1, 1) := by decide +kernel
theorem dX10_writeChanges_9 : decode cX10_writeChanges 9 = .ok (.goto 17, 3) := by decide +kernel
theorem dX10_writeChanges_12 : decode cX10_writeChanges 12 = .ok (.aload_n 0, 1) := by decide +kernel
theorem dX10_writeChanges_13 : decode cX10_writeChanges 13 = .ok (.getfield 32, 3) := by decide +kernel
theorem dX10_writeChanges_16 : decode cX10_writeChanges 16 = .ok (.iload_n 1, 1) := by decide +kernel
theorem dX10_writeChanges_17 : decode cX10_writeChanges 17 = .ok (.iaload, 1) := by decide +kernel
theorem dX10_writeChanges_18 : decode cX10_writeChanges 18 = .ok (.ifCond .ne 7, 3) := by decide +kernel
theorem dX10_writeChanges_21 : decode cX10_writeChanges 21 = .ok (.iconst 2, 1) := by decide +kernel
theorem dX10_writeChanges_22 : decode cX10_writeChanges 22 = .ok (.goto 4, 3) := by decide +kernel
theorem dX10_writeChanges_25 : decode cX10_writeChanges 25 = .ok (.iconst 0, 1) := by decide +kernel
theorem dX10_writeChanges_26 : decode cX10_writeChanges 26 = .ok (.putfield 100, 3) := by decide +kernel
theorem dX10_writeChanges_29 : decode cX10_writeChanges 29 = .ok (.aload_n 0, 1) := by decide +kernel
theorem dX10_writeChanges_30 : decode cX10_writeChanges 30 = .ok (.getfield 100, 3) := by decide +kernel
theorem dX10_writeChanges_33 : decode cX10_writeChanges 33 = .ok (.ifCond .le 5, 3) := by decide +kernel
theorem dX10_writeChanges_36 : decode cX10_writeChanges 36 = .ok (.iconst 0, 1) := by decide +kernel
theorem dX10_writeChanges_37 : decode cX10_writeChanges 37 = .ok (.ireturn, 1) := by decide +kernel
theorem dX10_writeChanges_38 : decode cX10_writeChanges 38 = .ok (.aload_n 0, 1) := by decide +kernel
theorem dX10_writeChanges_39 : decode cX10_writeChanges 39 = .ok (.iconst 0, 1) := by decide +kernel
theorem dX10_writeChanges_40 : decode cX10_writeChanges 40 = .ok (.putfield 195, 3) := by decide +kernel
theorem dX10_writeChanges_43 : decode cX10_writeChanges 43 = .ok (.iconst 0, 1) := by decide +kernel
theorem dX10_writeChanges_44 : decode cX10_writeChanges 44 = .ok (.istore_n 2, 1) := by decide +kernel
theorem dX10_writeChanges_45 : decode cX10_writeChanges 45 = .ok (.iload_n 2, 1) := by decide +kernel
theorem dX10_writeChanges_46 : decode cX10_writeChanges 46 = .ok (.bipush 64, 2) := by decide +kernel
theorem dX10_writeChanges_48 : decode cX10_writeChanges 48 = .ok (.if_icmp .ge 50, 3) := by decide +kernel
theorem dX10_writeChanges_51 : decode cX10_writeChanges 51 = .ok (.aload_n 0, 1) := by decide +kernel
theorem dX10_writeChanges_52 : decode cX10_writeChanges 52 = .ok (.getfield 35, 3) := by decide +kernel
theorem dX10_writeChanges_55 : decode cX10_writeChanges 55 = .ok (.bipush 64, 2) := by decide +kernel
theorem dX10_writeChanges_57 : decode cX10_writeChanges 57 = .ok (.iload_n 1, 1) := by decide +kernel
theorem dX10_writeChanges_58 : decode cX10_writeChanges 58 = .ok (.imul, 1) := by decide +kernel
theorem dX10_writeChanges_59 : decode cX10_writeChanges 59 = .ok (.iload_n 2, 1) := by decide +kernel
theorem dX10_writeChanges_60 : decode cX10_writeChanges 60 = .ok (.iadd, 1) := by decide +kernel
theorem dX10_writeChanges_61 : decode cX10_writeChanges 61 = .ok (.baload, 1) := by decide +kernel
theorem dX10_writeChanges_62 : decode cX10_writeChanges 62 = .ok (.ifCond .eq 30, 3) := by decide +kernel
theorem dX10_writeChanges_65 : decode cX10_writeChanges 65 = .ok (.aload_n 0, 1) := by decide +kernel
theorem dX10_writeChanges_66 : decode cX10_writeChanges 66 = .ok (.iload_n 2, 1) := by decide +kernel
theorem dX10_writeChanges_67 : decode cX10_writeChanges 67 = .ok (.aload_n 0, 1) := by decide +kernel
theorem dX10_writeChanges_68 : decode cX10_writeChanges 68 = .ok (.getfield 38, 3) := by decide +kernel
theorem dX10_writeChanges_71 : decode cX10_writeChanges 71 = .ok (.bipush 64, 2) := by decide +kernel
theorem dX10_writeChanges_73 : decode cX10_writeChanges 73 = .ok (.iload_n 1, 1) := by decide +kernel
theorem dX10_writeChanges_74 : decode cX10_writeChanges 74 = .ok (.imul, 1) := by decide +kernel
theorem dX10_writeChanges_75 : decode cX10_writeChanges 75 = .ok (.iload_n 2, 1) := by decide +kernel
theorem dX10_writeChanges_76 : decode cX10_writeChanges 76 = .ok (.iadd, 1) := by decide +kernel
theorem dX10_writeChanges_77 : decode cX10_writeChanges 77 = .ok (.baload, 1) := by decide +kernel
theorem dX10_writeChanges_78 : decode cX10_writeChanges 78 = .ok (.aload_n 0, 1) := by decide +kernel
theorem dX10_writeChanges_79 : decode cX10_writeChanges 79 = .ok (.getfield 41, 3) := by decide +kernel
theorem dX10_writeChanges_82 : decode cX10_writeChanges 82 = .ok (.bipush 64, 2) := by decide +kernel
theorem dX10_writeChanges_84 : decode cX10_writeChanges 84 = .ok (.iload_n 1, 1) := by decide +kernel
theorem dX10_writeChanges_85 : decode cX10_writeChanges 85 = .ok (.imul, 1) := by decide +kernel
theorem dX10_writeChanges_86 : decode cX10_writeChanges 86 = .ok (.iload_n 2, 1) := by decide +kernel
theorem dX10_writeChanges_87 : decode cX10_writeChanges 87 = .ok (.iadd, 1) := by decide +kernel
theorem dX10_writeChanges_88 : decode cX10_writeChanges 88 = .ok (.iaload, 1) := by decide +kernel
theorem dX10_writeChanges_89 : decode cX10_writeChanges 89 = .ok (.invokevirtual 208, 3) := by decide +kernel
theorem dX10_writeChanges_92 : decode cX10_writeChanges 92 = .ok (.iinc 2 1, 3) := by decide +kernel
theorem dX10_writeChanges_95 : decode cX10_writeChanges 95 = .ok (.goto (-50), 3) := by decide +kernel
theorem dX10_writeChanges_98 : decode cX10_writeChanges 98 = .ok (.aload_n 0, 1) := by decide +kernel
theorem dX10_writeChanges_99 : decode cX10_writeChanges 99 = .ok (.getfield 195, 3) := by decide +kernel
theorem dX10_writeChanges_102 : decode cX10_writeChanges 102 = .ok (.ireturn, 1) := by decide +kernel
set_option maxRecDepth 20000 in
theorem ggX10_writeRecords_X10_sayEntry : GoodIn wsX10_writeRecords wsX10_sayEntry := goodIn_r _ [10, 3, 11, 12, 13, 9, 14, 15, 16, 17, 18, 19, 20, 21, 22, 23, 24, 25, 26, 27, 28, 29, 30, 31, 32, 33, 34, 35, 36, 37, 38, 39, 40, 41, 42, 43, 44, 45, 46, 47, 48, 49, 50, 51, 52, 53, 54, 55, 56, 57, 58, 59, 60, 61] (by decide +kernel) (by decide +kernel)
set_option maxRecDepth 20000 in
theorem gX10_writeRecords_X10_sayEntry : GoodIn wsX10_writeRecords (wsV RX10 208 RX10 yX10_sayEntry wsX10_sayEntry) := goodIn_app (goodIn_of _ (by decide +kernel)) ggX10_writeRecords_X10_sayEntry
theorem dX10_writeRecords_0 : decode cX10_writeRecords 0 = .ok (.aload_n 0, 1) := by decide +kernel
theorem dX10_writeRecords_1 : decode cX10_writeRecords 1 = .ok (.aload_n 0, 1) := by decide +kernel
theorem dX10_writeRecords_2 : decode cX10_writeRecords 2 = .ok (.getfield 116, 3) := by decide +kernel
theorem dX10_writeRecords_5 : decode cX10_writeRecords 5 = .ok (.ifCond .eq 7, 3) := by decide +kernel
theorem dX10_writeRecords_8 : decode cX10_writeRecords 8 = .ok (.iconst 0, 1) := by decide +kernel
theorem dX10_writeRecords_9 : decode cX10_writeRecords 9 = .ok (.goto 4, 3) := by decide +kernel
theorem dX10_writeRecords_12 : decode cX10_writeRecords 12 = .ok (.iconst 1, 1) := by decide +kernel
theorem dX10_writeRecords_13 : decode cX10_writeRecords 13 = .ok (.putfield 100, 3) := by decide +kernel
theorem dX10_writeRecords_16 : decode cX10_writeRecords 16 = .ok (.aload_n 0, 1) := by decide +kernel
theorem dX10_writeRecords_17 : decode cX10_writeRecords 17 = .ok (.getfield 100, 3) := by decide +kernel
theorem dX10_writeRecords_20 : decode cX10_writeRecords 20 = .ok (.ifCond .le 5, 3) := by decide +kernel
theorem dX10_writeRecords_23 : decode cX10_writeRecords 23 = .ok (.iconst 0, 1) := by decide +kernel
theorem dX10_writeRecords_24 : decode cX10_writeRecords 24 = .ok (.ireturn, 1) := by decide +kernel
theorem dX10_writeRecords_25 : decode cX10_writeRecords 25 = .ok (.aload_n 0, 1) := by decide +kernel
theorem dX10_writeRecords_26 : decode cX10_writeRecords 26 = .ok (.iconst 0, 1) := by decide +kernel
theorem dX10_writeRecords_27 : decode cX10_writeRecords 27 = .ok (.putfield 195, 3) := by decide +kernel
theorem dX10_writeRecords_30 : decode cX10_writeRecords 30 = .ok (.iconst 0, 1) := by decide +kernel
theorem dX10_writeRecords_31 : decode cX10_writeRecords 31 = .ok (.istore_n 1, 1) := by decide +kernel
theorem dX10_writeRecords_32 : decode cX10_writeRecords 32 = .ok (.iload_n 1, 1) := by decide +kernel
theorem dX10_writeRecords_33 : decode cX10_writeRecords 33 = .ok (.bipush 64, 2) := by decide +kernel
theorem dX10_writeRecords_35 : decode cX10_writeRecords 35 = .ok (.if_icmp .ge 30, 3) := by decide +kernel
theorem dX10_writeRecords_38 : decode cX10_writeRecords 38 = .ok (.aload_n 0, 1) := by decide +kernel
theorem dX10_writeRecords_39 : decode cX10_writeRecords 39 = .ok (.getfield 22, 3) := by decide +kernel
theorem dX10_writeRecords_42 : decode cX10_writeRecords 42 = .ok (.iload_n 1, 1) := by decide +kernel
theorem dX10_writeRecords_43 : decode cX10_writeRecords 43 = .ok (.baload, 1) := by decide +kernel
theorem dX10_writeRecords_44 : decode cX10_writeRecords 44 = .ok (.ifCond .eq 15, 3) := by decide +kernel
theorem dX10_writeRecords_47 : decode cX10_writeRecords 47 = .ok (.aload_n 0, 1) := by decide +kernel
theorem dX10_writeRecords_48 : decode cX10_writeRecords 48 = .ok (.iload_n 1, 1) := by decide +kernel
theorem dX10_writeRecords_49 : decode cX10_writeRecords 49 = .ok (.iconst 0, 1) := by decide +kernel
theorem dX10_writeRecords_50 : decode cX10_writeRecords 50 = .ok (.aload_n 0, 1) := by decide +kernel
theorem dX10_writeRecords_51 : decode cX10_writeRecords 51 = .ok (.getfield 26, 3) := by decide +kernel
theorem dX10_writeRecords_54 : decode cX10_writeRecords 54 = .ok (.iload_n 1, 1) := by decide +kernel
theorem dX10_writeRecords_55 : decode cX10_writeRecords 55 = .ok (.iaload, 1) := by decide +kernel
theorem dX10_writeRecords_56 : decode cX10_writeRecords 56 = .ok (.invokevirtual 208, 3) := by decide +kernel
theorem dX10_writeRecords_59 : decode cX10_writeRecords 59 = .ok (.iinc 1 1, 3) := by decide +kernel
theorem dX10_writeRecords_62 : decode cX10_writeRecords 62 = .ok (.goto (-30), 3) := by decide +kernel
theorem dX10_writeRecords_65 : decode cX10_writeRecords 65 = .ok (.aload_n 0, 1) := by decide +kernel
theorem dX10_writeRecords_66 : decode cX10_writeRecords 66 = .ok (.getfield 195, 3) := by decide +kernel
theorem dX10_writeRecords_69 : decode cX10_writeRecords 69 = .ok (.ireturn, 1) := by decide +kernel
set_option maxRecDepth 20000 in
theorem ggX10_outputAt_X10_in : GoodIn wsX10_outputAt wsX10_in := goodIn_r _ [7] (by decide +kernel) (by decide +kernel)
set_option maxRecDepth 20000 in
theorem gX10_outputAt_X10_in : GoodIn wsX10_outputAt (va_wsS RX10 104 yX10_in wsX10_in) := goodIn_app (goodIn_of _ (by decide +kernel)) ggX10_outputAt_X10_in
theorem dX10_outputAt_0 : decode cX10_outputAt 0 = .ok (.aload_n 0, 1) := by decide +kernel
theorem dX10_outputAt_1 : decode cX10_outputAt 1 = .ok (.iload_n 1, 1) := by decide +kernel
theorem dX10_outputAt_2 : decode cX10_outputAt 2 = .ok (.iconst 0, 1) := by decide +kernel
theorem dX10_outputAt_3 : decode cX10_outputAt 3 = .ok (.aload_n 0, 1) := by decide +kernel
theorem dX10_outputAt_4 : decode cX10_outputAt 4 = .ok (.getfield 195, 3) := by decide +kernel
theorem dX10_outputAt_7 : decode cX10_outputAt 7 = .ok (.iconst 1, 1) := by decide +kernel
theorem dX10_outputAt_8 : decode cX10_outputAt 8 = .ok (.isub, 1) := by decide +kernel
theorem dX10_outputAt_9 : decode cX10_outputAt 9 = .ok (.invokestatic 104, 3) := by decide +kernel
theorem dX10_outputAt_12 : decode cX10_outputAt 12 = .ok (.ifCond .eq 7, 3) := by decide +kernel
theorem dX10_outputAt_15 : decode cX10_outputAt 15 = .ok (.iconst 0, 1) := by decide +kernel
theorem dX10_outputAt_16 : decode cX10_outputAt 16 = .ok (.goto 4, 3) := by decide +kernel
theorem dX10_outputAt_19 : decode cX10_outputAt 19 = .ok (.iconst 1, 1) := by decide +kernel
theorem dX10_outputAt_20 : decode cX10_outputAt 20 = .ok (.putfield 100, 3) := by decide +kernel
theorem dX10_outputAt_23 : decode cX10_outputAt 23 = .ok (.aload_n 0, 1) := by decide +kernel
theorem dX10_outputAt_24 : decode cX10_outputAt 24 = .ok (.getfield 100, 3) := by decide +kernel
theorem dX10_outputAt_27 : decode cX10_outputAt 27 = .ok (.ifCond .le 7, 3) := by decide +kernel
theorem dX10_outputAt_30 : decode cX10_outputAt 30 = .ok (.iconst 0, 1) := by decide +kernel
theorem dX10_outputAt_31 : decode cX10_outputAt 31 = .ok (.goto 9, 3) := by decide +kernel
theorem dX10_outputAt_34 : decode cX10_outputAt 34 = .ok (.aload_n 0, 1) := by decide +kernel
theorem dX10_outputAt_35 : decode cX10_outputAt 35 = .ok (.getfield 63, 3) := by decide +kernel
theorem dX10_outputAt_38 : decode cX10_outputAt 38 = .ok (.iload_n 1, 1) := by decide +kernel
theorem dX10_outputAt_39 : decode cX10_outputAt 39 = .ok (.caload, 1) := by decide +kernel
theorem dX10_outputAt_40 : decode cX10_outputAt 40 = .ok (.ireturn, 1) := by decide +kernel
theorem dX10_combine_0 : decode cX10_combine 0 = .ok (.iconst 0, 1) := by decide +kernel
theorem dX10_combine_1 : decode cX10_combine 1 = .ok (.istore_n 1, 1) := by decide +kernel
theorem dX10_combine_2 : decode cX10_combine 2 = .ok (.iload_n 1, 1) := by decide +kernel
theorem dX10_combine_3 : decode cX10_combine 3 = .ok (.bipush 8, 2) := by decide +kernel
theorem dX10_combine_5 : decode cX10_combine 5 = .ok (.if_icmp .ge 16, 3) := by decide +kernel
theorem dX10_combine_8 : decode cX10_combine 8 = .ok (.aload_n 0, 1) := by decide +kernel
theorem dX10_combine_9 : decode cX10_combine 9 = .ok (.getfield 84, 3) := by decide +kernel
theorem dX10_combine_12 : decode cX10_combine 12 = .ok (.iload_n 1, 1) := by decide +kernel
theorem dX10_combine_13 : decode cX10_combine 13 = .ok (.iconst 0, 1) := by decide +kernel
theorem dX10_combine_14 : decode cX10_combine 14 = .ok (.bastore, 1) := by decide +kernel
theorem dX10_combine_15 : decode cX10_combine 15 = .ok (.iinc 1 1, 3) := by decide +kernel
theorem dX10_combine_18 : decode cX10_combine 18 = .ok (.goto (-16), 3) := by decide +kernel
theorem dX10_combine_21 : decode cX10_combine 21 = .ok (.iconst 0, 1) := by decide +kernel
theorem dX10_combine_22 : decode cX10_combine 22 = .ok (.istore_n 1, 1) := by decide +kernel
theorem dX10_combine_23 : decode cX10_combine 23 = .ok (.iload_n 1, 1) := by decide +kernel
theorem dX10_combine_24 : decode cX10_combine 24 = .ok (.bipush 64, 2) := by decide +kernel
theorem dX10_combine_26 : decode cX10_combine 26 = .ok (.if_icmp .ge 112, 3) := by decide +kernel
theorem dX10_combine_29 : decode cX10_combine 29 = .ok (.aload_n 0, 1) := by decide +kernel
theorem dX10_combine_30 : decode cX10_combine 30 = .ok (.getfield 87, 3) := by decide +kernel
theorem dX10_combine_33 : decode cX10_combine 33 = .ok (.iload_n 1, 1) := by decide +kernel
theorem dX10_combine_34 : decode cX10_combine 34 = .ok (.aload_n 0, 1) := by decide +kernel
theorem dX10_combine_35 : decode cX10_combine 35 = .ok (.getfield 22, 3) := by decide +kernel
theorem dX10_combine_38 : decode cX10_combine 38 = .ok (.iload_n 1, 1) := by decide +kernel
theorem dX10_combine_39 : decode cX10_combine 39 = .ok (.baload, 1) := by decide +kernel
theorem dX10_combine_40 : decode cX10_combine 40 = .ok (.bastore, 1) := by decide +kernel
theorem dX10_combine_41 : decode cX10_combine 41 = .ok (.aload_n 0, 1) := by decide +kernel
theorem dX10_combine_42 : decode cX10_combine 42 = .ok (.getfield 90, 3) := by decide +kernel
theorem dX10_combine_45 : decode cX10_combine 45 = .ok (.iload_n 1, 1) := by decide +kernel
theorem dX10_combine_46 : decode cX10_combine 46 = .ok (.aload_n 0, 1) := by decide +kernel
theorem dX10_combine_47 : decode cX10_combine 47 = .ok (.getfield 26, 3) := by decide +kernel
theorem dX10_combine_50 : decode cX10_combine 50 = .ok (.iload_n 1, 1) := by decide +kernel
theorem dX10_combine_51 : decode cX10_combine 51 = .ok (.iaload, 1) := by decide +kernel
theorem dX10_combine_52 : decode cX10_combine 52 = .ok (.iastore, 1) := by decide +kernel
theorem dX10_combine_53 : decode cX10_combine 53 = .ok (.iconst 0, 1) := by decide +kernel
theorem dX10_combine_54 : decode cX10_combine 54 = .ok (.istore_n 2, 1) := by decide +kernel
theorem dX10_combine_55 : decode cX10_combine 55 = .ok (.iload_n 2, 1) := by decide +kernel
theorem dX10_combine_56 : decode cX10_combine 56 = .ok (.aload_n 0, 1) := by decide +kernel
theorem dX10_combine_57 : decode cX10_combine 57 = .ok (.getfield 133, 3) := by decide +kernel
theorem dX10_combine_60 : decode cX10_combine 60 = .ok (.if_icmp .ge 72, 3) := by decide +kernel
theorem dX10_combine_63 : decode cX10_combine 63 = .ok (.bipush 64, 2) := by decide +kernel
theorem dX10_combine_65 : decode cX10_combine 65 = .ok (.aload_n 0, 1) := by decide +kernel
theorem dX10_combine_66 : decode cX10_combine 66 = .ok (.getfield 56, 3) := by decide +kernel
theorem dX10_combine_69 : decode cX10_combine 69 = .ok (.iload_n 2, 1) := by decide +kernel
theorem dX10_combine_70 : decode cX10_combine 70 = .ok (.iaload, 1) := by decide +kernel
theorem dX10_combine_71 : decode cX10_combine 71 = .ok (.imul, 1) := by decide +kernel
theorem dX10_combine_72 : decode cX10_combine 72 = .ok (.iload_n 1, 1) := by decide +kernel
theorem dX10_combine_73 : decode cX10_combine 73 = .ok (.iadd, 1) := by decide +kernel
theorem dX10_combine_74 : decode cX10_combine 74 = .ok (.istore_n 3, 1) := by decide +kernel
theorem dX10_combine_75 : decode cX10_combine 75 = .ok (.aload_n 0, 1) := by decide +kernel
theorem dX10_combine_76 : decode cX10_combine 76 = .ok (.getfield 35, 3) := by decide +kernel
theorem dX10_combine_79 : decode cX10_combine 79 = .ok (.iload_n 3, 1) := by decide +kernel
theorem dX10_combine_80 : decode cX10_combine 80 = .ok (.baload, 1) := by decide +kernel
theorem dX10_combine_81 : decode cX10_combine 81 = .ok (.ifCond .eq 45, 3) := by decide +kernel
theorem dX10_combine_84 : decode cX10_combine 84 = .ok (.aload_n 0, 1) := by decide +kernel
theorem dX10_combine_85 : decode cX10_combine 85 = .ok (.getfield 87, 3) := by decide +kernel
theorem dX10_combine_88 : decode cX10_combine 88 = .ok (.iload_n 1, 1) := by decide +kernel
theorem dX10_combine_89 : decode cX10_combine 89 = .ok (.aload_n 0, 1) := by decide +kernel
theorem dX10_combine_90 : decode cX10_combine 90 = .ok (.getfield 38, 3) := by decide +kernel
theorem dX10_combine_93 : decode cX10_combine 93 = .ok (.iload_n 3, 1) := by decide +kernel
theorem dX10_combine_94 : decode cX10_combine 94 = .ok (.baload, 1) := by decide +kernel
theorem dX10_combine_95 : decode cX10_combine 95 = .ok (.ifCond .ne 7, 3) := by decide +kernel
theorem dX10_combine_98 : decode cX10_combine 98 = .ok (.iconst 1, 1) := by decide +kernel
theorem dX10_combine_99 : decode cX10_combine 99 = .ok (.goto 4, 3) := by decide +kernel
theorem dX10_combine_102 : decode cX10_combine 102 = .ok (.iconst 0, 1) := by decide +kernel
theorem dX10_combine_103 : decode cX10_combine 103 = .ok (.bastore, 1) := by decide +kernel
theorem dX10_combine_104 : decode cX10_combine 104 = .ok (.aload_n 0, 1) := by decide +kernel
theorem dX10_combine_105 : decode cX10_combine 105 = .ok (.getfield 90, 3) := by decide +kernel
theorem dX10_combine_108 : decode cX10_combine 108 = .ok (.iload_n 1, 1) := by decide +kernel
theorem dX10_combine_109 : decode cX10_combine 109 = .ok (.aload_n 0, 1) := by decide +kernel
theorem dX10_combine_110 : decode cX10_combine 110 = .ok (.getfield 41, 3) := by decide +kernel
theorem dX10_combine_113 : decode cX10_combine 113 = .ok (.iload_n 3, 1) := by decide +kernel
theorem dX10_combine_114 : decode cX10_combine 114 = .ok (.iaload, 1) := by decide +kernel
theorem dX10_combine_115 : decode cX10_combine 115 = .ok (.iastore, 1) := by decide +kernel
theorem dX10_combine_116 : decode cX10_combine 116 = .ok (.aload_n 0, 1) := by decide +kernel
theorem dX10_combine_117 : decode cX10_combine 117 = .ok (.getfield 84, 3) := by decide +kernel
theorem dX10_combine_120 : decode cX10_combine 120 = .ok (.iload_n 1, 1) := by decide +kernel
theorem dX10_combine_121 : decode cX10_combine 121 = .ok (.bipush 8, 2) := by decide +kernel
theorem dX10_combine_123 : decode cX10_combine 123 = .ok (.irem, 1) := by decide +kernel
theorem dX10_combine_124 : decode cX10_combine 124 = .ok (.iconst 1, 1) := by decide +kernel
theorem dX10_combine_125 : decode cX10_combine 125 = .ok (.bastore, 1) := by decide +kernel
theorem dX10_combine_126 : decode cX10_combine 126 = .ok (.iinc 2 1, 3) := by decide +kernel
theorem dX10_combine_129 : decode cX10_combine 129 = .ok (.goto (-74), 3) := by decide +kernel
theorem dX10_combine_132 : decode cX10_combine 132 = .ok (.iinc 1 1, 3) := by decide +kernel
theorem dX10_combine_135 : decode cX10_combine 135 = .ok (.goto (-112), 3) := by decide +kernel
theorem dX10_combine_138 : decode cX10_combine 138 = .ok (.return_, 1) := by decide +kernel
theorem dX10_isNewPage_0 : decode cX10_isNewPage 0 = .ok (.iconst 0, 1) := by decide +kernel
theorem dX10_isNewPage_1 : decode cX10_isNewPage 1 = .ok (.istore_n 2, 1) := by decide +kernel
theorem dX10_isNewPage_2 : decode cX10_isNewPage 2 = .ok (.iload_n 1, 1) := by decide +kernel
theorem dX10_isNewPage_3 : decode cX10_isNewPage 3 = .ok (.istore_n 3, 1) := by decide +kernel
theorem dX10_isNewPage_4 : decode cX10_isNewPage 4 = .ok (.iload_n 3, 1) := by decide +kernel
theorem dX10_isNewPage_5 : decode cX10_isNewPage 5 = .ok (.bipush 64, 2) := by decide +kernel
theorem dX10_isNewPage_7 : decode cX10_isNewPage 7 = .ok (.if_icmp .ge 28, 3) := by decide +kernel
theorem dX10_isNewPage_10 : decode cX10_isNewPage 10 = .ok (.iload_n 2, 1) := by decide +kernel
theorem dX10_isNewPage_11 : decode cX10_isNewPage 11 = .ok (.ifCond .ne 12, 3) := by decide +kernel
theorem dX10_isNewPage_14 : decode cX10_isNewPage 14 = .ok (.aload_n 0, 1) := by decide +kernel
theorem dX10_isNewPage_15 : decode cX10_isNewPage 15 = .ok (.getfield 87, 3) := by decide +kernel
theorem dX10_isNewPage_18 : decode cX10_isNewPage 18 = .ok (.iload_n 3, 1) := by decide +kernel
theorem dX10_isNewPage_19 : decode cX10_isNewPage 19 = .ok (.baload, 1) := by decide +kernel
theorem dX10_isNewPage_20 : decode cX10_isNewPage 20 = .ok (.ifCond .eq 7, 3) := by decide +kernel
theorem dX10_isNewPage_23 : decode cX10_isNewPage 23 = .ok (.iconst 1, 1) := by decide +kernel
theorem dX10_isNewPage_24 : decode cX10_isNewPage 24 = .ok (.goto 4, 3) := by decide +kernel
theorem dX10_isNewPage_27 : decode cX10_isNewPage 27 = .ok (.iconst 0, 1) := by decide +kernel
theorem dX10_isNewPage_28 : decode cX10_isNewPage 28 = .ok (.istore_n 2, 1) := by decide +kernel
theorem dX10_isNewPage_29 : decode cX10_isNewPage 29 = .ok (.iinc 3 8, 3) := by decide +kernel
theorem dX10_isNewPage_32 : decode cX10_isNewPage 32 = .ok (.goto (-28), 3) := by decide +kernel
theorem dX10_isNewPage_35 : decode cX10_isNewPage 35 = .ok (.aload_n 0, 1) := by decide +kernel
theorem dX10_isNewPage_36 : decode cX10_isNewPage 36 = .ok (.getfield 84, 3) := by decide +kernel
theorem dX10_isNewPage_39 : decode cX10_isNewPage 39 = .ok (.iload_n 1, 1) := by decide +kernel
theorem dX10_isNewPage_40 : decode cX10_isNewPage 40 = .ok (.baload, 1) := by decide +kernel
theorem dX10_isNewPage_41 : decode cX10_isNewPage 41 = .ok (.ifCond .eq 11, 3) := by decide +kernel
theorem dX10_isNewPage_44 : decode cX10_isNewPage 44 = .ok (.iload_n 2, 1) := by decide +kernel
theorem dX10_isNewPage_45 : decode cX10_isNewPage 45 = .ok (.ifCond .eq 7, 3) := by decide +kernel
theorem dX10_isNewPage_48 : decode cX10_isNewPage 48 = .ok (.iconst 1, 1) := by decide +kernel
theorem dX10_isNewPage_49 : decode cX10_isNewPage 49 = .ok (.goto 4, 3) := by decide +kernel
theorem dX10_isNewPage_52 : decode cX10_isNewPage 52 = .ok (.iconst 0, 1) := by decide +kernel
theorem dX10_isNewPage_53 : decode cX10_isNewPage 53 = .ok (.ireturn, 1) := by decide +kernel
set_option maxRecDepth 20000 in
theorem ggX10_pagesToWrite_X10_combine : GoodIn wsX10_pagesToWrite wsX10_combine := goodIn_r _ [5, 6, 7, 8, 9, 10, 11, 12, 13, 14, 15, 20, 21, 22, 23, 24, 25, 26, 27, 28, 29, 30, 31, 32, 33, 34, 35, 36, 37, 38, 39, 40, 41, 42, 43, 44, 45, 46, 47, 48, 49, 50, 51, 52, 53, 54, 55, 56, 57] (by decide +kernel) (by decide +kernel)
set_option maxRecDepth 20000 in
theorem gX10_pagesToWrite_X10_combine : GoodIn wsX10_pagesToWrite (wsV RX10 212 RX10 yX10_combine wsX10_combine) := goodIn_app (goodIn_of _ (by decide +kernel)) ggX10_pagesToWrite_X10_combine
set_option maxRecDepth 20000 in
theorem ggX10_pagesToWrite_X10_isNewPage : GoodIn wsX10_pagesToWrite wsX10_isNewPage := goodIn_r _ [19, 7, 6, 20, 21, 22, 23, 24, 25, 26, 27, 28, 29, 30, 31, 32, 33, 34, 35, 36, 37, 38, 39, 40, 41, 42, 43, 44, 45, 46, 47, 48, 49, 50, 51, 52, 53, 54, 55, 56, 57] (by decide +kernel) (by decide +kernel)
set_option maxRecDepth 20000 in
theorem gX10_pagesToWrite_X10_isNewPage : GoodIn wsX10_pagesToWrite (wsV RX10 215 RX10 yX10_isNewPage wsX10_isNewPage) := goodIn_app (goodIn_of _ (by decide +kernel)) ggX10_pagesToWrite_X10_isNewPage
theorem dX10_pagesToWrite_0 : decode cX10_pagesToWrite 0 = .ok (.aload_n 0, 1) := by decide +kernel
theorem dX10_pagesToWrite_1 : decode cX10_pagesToWrite 1 = .ok (.invokevirtual 212, 3) := by decide +kernel
theorem dX10_pagesToWrite_4 : decode cX10_pagesToWrite 4 = .ok (.iconst 0, 1) := by decide +kernel
theorem dX10_pagesToWrite_5 : decode cX10_pagesToWrite 5 = .ok (.istore_n 1, 1) := by decide +kernel
theorem dX10_pagesToWrite_6 : decode cX10_pagesToWrite 6 = .ok (.iconst 0, 1) := by decide +kernel
theorem dX10_pagesToWrite_7 : decode cX10_pagesToWrite 7 = .ok (.istore_n 2, 1) := by decide +kernel
theorem dX10_pagesToWrite_8 : decode cX10_pagesToWrite 8 = .ok (.iload_n 2, 1) := by decide +kernel
theorem dX10_pagesToWrite_9 : decode cX10_pagesToWrite 9 = .ok (.bipush 8, 2) := by decide +kernel
theorem dX10_pagesToWrite_11 : decode cX10_pagesToWrite 11 = .ok (.if_icmp .ge 25, 3) := by decide +kernel
theorem dX10_pagesToWrite_14 : decode cX10_pagesToWrite 14 = .ok (.iload_n 1, 1) := by decide +kernel
theorem dX10_pagesToWrite_15 : decode cX10_pagesToWrite 15 = .ok (.aload_n 0, 1) := by decide +kernel
theorem dX10_pagesToWrite_16 : decode cX10_pagesToWrite 16 = .ok (.iload_n 2, 1) := by decide +kernel
theorem dX10_pagesToWrite_17 : decode cX10_pagesToWrite 17 = .ok (.invokevirtual 215, 3) := by decide +kernel
theorem dX10_pagesToWrite_20 : decode cX10_pagesToWrite 20 = .ok (.ifCond .eq 7, 3) := by decide +kernel
theorem dX10_pagesToWrite_23 : decode cX10_pagesToWrite 23 = .ok (.iconst 1, 1) := by decide +kernel
theorem dX10_pagesToWrite_24 : decode cX10_pagesToWrite 24 = .ok (.goto 4, 3) := by decide +kernel
theorem dX10_pagesToWrite_27 : decode cX10_pagesToWrite 27 = .ok (.iconst 0, 1) := by decide +kernel
theorem dX10_pagesToWrite_28 : decode cX10_pagesToWrite 28 = .ok (.iadd, 1) := by decide +kernel
theorem dX10_pagesToWrite_29 : decode cX10_pagesToWrite 29 = .ok (.istore_n 1, 1) := by decide +kernel
theorem dX10_pagesToWrite_30 : decode cX10_pagesToWrite 30 = .ok (.iinc 2 1, 3) := by decide +kernel
theorem dX10_pagesToWrite_33 : decode cX10_pagesToWrite 33 = .ok (.goto (-25), 3) := by decide +kernel
theorem dX10_pagesToWrite_36 : decode cX10_pagesToWrite 36 = .ok (.iload_n 1, 1) := by decide +kernel
theorem dX10_pagesToWrite_37 : decode cX10_pagesToWrite 37 = .ok (.ireturn, 1) := by decide +kernel
set_option maxRecDepth 20000 in
theorem ggX10_blocksToWrite_X10_pagesToWrite : GoodIn wsX10_blocksToWrite wsX10_pagesToWrite := goodIn_r _ [7, 8, 9, 10, 6, 11, 12, 13, 14, 15, 16, 2, 17, 18, 19, 20, 21, 22, 23, 24, 25, 26, 27, 28, 29, 30, 31, 32, 33, 34, 35, 36, 37, 38, 39, 40, 41, 42, 43, 44, 45, 46, 47, 48, 49, 50, 51, 52, 53, 54, 55, 56, 57, 58, 59, 60, 61, 62] (by decide +kernel) (by decide +kernel)
set_option maxRecDepth 20000 in
theorem gX10_blocksToWrite_X10_pagesToWrite : GoodIn wsX10_blocksToWrite (wsV RX10 218 RX10 yX10_pagesToWrite wsX10_pagesToWrite) := goodIn_app (goodIn_of _ (by decide +kernel)) ggX10_blocksToWrite_X10_pagesToWrite
theorem dX10_blocksToWrite_0 : decode cX10_blocksToWrite 0 = .ok (.aload_n 0, 1) := by decide +kernel
theorem dX10_blocksToWrite_1 : decode cX10_blocksToWrite 1 = .ok (.iconst 0, 1) := by decide +kernel
theorem dX10_blocksToWrite_2 : decode cX10_blocksToWrite 2 = .ok (.putfield 100, 3) := by decide +kernel
theorem dX10_blocksToWrite_5 : decode cX10_blocksToWrite 5 = .ok (.aload_n 0, 1) := by decide +kernel
theorem dX10_blocksToWrite_6 : decode cX10_blocksToWrite 6 = .ok (.getfield 133, 3) := by decide +kernel
theorem dX10_blocksToWrite_9 : decode cX10_blocksToWrite 9 = .ok (.ifCond .ne 7, 3) := by decide +kernel
theorem dX10_blocksToWrite_12 : decode cX10_blocksToWrite 12 = .ok (.iconst 0, 1) := by decide +kernel
theorem dX10_blocksToWrite_13 : decode cX10_blocksToWrite 13 = .ok (.goto 9, 3) := by decide +kernel
theorem dX10_blocksToWrite_16 : decode cX10_blocksToWrite 16 = .ok (.aload_n 0, 1) := by decide +kernel
theorem dX10_blocksToWrite_17 : decode cX10_blocksToWrite 17 = .ok (.invokevirtual 218, 3) := by decide +kernel
theorem dX10_blocksToWrite_20 : decode cX10_blocksToWrite 20 = .ok (.iconst 2, 1) := by decide +kernel
theorem dX10_blocksToWrite_21 : decode cX10_blocksToWrite 21 = .ok (.iadd, 1) := by decide +kernel
theorem dX10_blocksToWrite_22 : decode cX10_blocksToWrite 22 = .ok (.ireturn, 1) := by decide +kernel
theorem dX10_isUsedBy_0 : decode cX10_isUsedBy 0 = .ok (.aload_n 0, 1) := by decide +kernel
theorem dX10_isUsedBy_1 : decode cX10_isUsedBy 1 = .ok (.getfield 16, 3) := by decide +kernel
theorem dX10_isUsedBy_4 : decode cX10_isUsedBy 4 = .ok (.iload_n 1, 1) := by decide +kernel
theorem dX10_isUsedBy_5 : decode cX10_isUsedBy 5 = .ok (.iaload, 1) := by decide +kernel
theorem dX10_isUsedBy_6 : decode cX10_isUsedBy 6 = .ok (.iload_n 2, 1) := by decide +kernel
theorem dX10_isUsedBy_7 : decode cX10_isUsedBy 7 = .ok (.if_icmp .ne 7, 3) := by decide +kernel
theorem dX10_isUsedBy_10 : decode cX10_isUsedBy 10 = .ok (.iconst 1, 1) := by decide +kernel
theorem dX10_isUsedBy_11 : decode cX10_isUsedBy 11 = .ok (.goto 4, 3) := by decide +kernel
theorem dX10_isUsedBy_14 : decode cX10_isUsedBy 14 = .ok (.iconst 0, 1) := by decide +kernel
theorem dX10_isUsedBy_15 : decode cX10_isUsedBy 15 = .ok (.istore_n 3, 1) := by decide +kernel
theorem dX10_isUsedBy_16 : decode cX10_isUsedBy 16 = .ok (.iconst 0, 1) := by decide +kernel
theorem dX10_isUsedBy_17 : decode cX10_isUsedBy 17 = .ok (.istore 4, 2) := by decide +kernel
theorem dX10_isUsedBy_19 : decode cX10_isUsedBy 19 = .ok (.iload 4, 2) := by decide +kernel
theorem dX10_isUsedBy_21 : decode cX10_isUsedBy 21 = .ok (.bipush 8, 2) := by decide +kernel
theorem dX10_isUsedBy_23 : decode cX10_isUsedBy 23 = .ok (.if_icmp .ge 35, 3) := by decide +kernel
theorem dX10_isUsedBy_26 : decode cX10_isUsedBy 26 = .ok (.iload_n 3, 1) := by decide +kernel
theorem dX10_isUsedBy_27 : decode cX10_isUsedBy 27 = .ok (.ifCond .ne 19, 3) := by decide +kernel
theorem dX10_isUsedBy_30 : decode cX10_isUsedBy 30 = .ok (.aload_n 0, 1) := by decide +kernel
theorem dX10_isUsedBy_31 : decode cX10_isUsedBy 31 = .ok (.getfield 19, 3) := by decide +kernel
theorem dX10_isUsedBy_34 : decode cX10_isUsedBy 34 = .ok (.bipush 8, 2) := by decide +kernel
theorem dX10_isUsedBy_36 : decode cX10_isUsedBy 36 = .ok (.iload_n 1, 1) := by decide +kernel
theorem dX10_isUsedBy_37 : decode cX10_isUsedBy 37 = .ok (.imul, 1) := by decide +kernel
theorem dX10_isUsedBy_38 : decode cX10_isUsedBy 38 = .ok (.iload 4, 2) := by decide +kernel
theorem dX10_isUsedBy_40 : decode cX10_isUsedBy 40 = .ok (.iadd, 1) := by decide +kernel
theorem dX10_isUsedBy_41 : decode cX10_isUsedBy 41 = .ok (.iaload, 1) := by decide +kernel
theorem dX10_isUsedBy_42 : decode cX10_isUsedBy 42 = .ok (.iload_n 2, 1) := by decide +kernel
theorem dX10_isUsedBy_43 : decode cX10_isUsedBy 43 = .ok (.if_icmp .ne 7, 3) := by decide +kernel
theorem dX10_isUsedBy_46 : decode cX10_isUsedBy 46 = .ok (.iconst 1, 1) := by decide +kernel
theorem dX10_isUsedBy_47 : decode cX10_isUsedBy 47 = .ok (.goto 4, 3) := by decide +kernel
theorem dX10_isUsedBy_50 : decode cX10_isUsedBy 50 = .ok (.iconst 0, 1) := by decide +kernel
theorem dX10_isUsedBy_51 : decode cX10_isUsedBy 51 = .ok (.istore_n 3, 1) := by decide +kernel
theorem dX10_isUsedBy_52 : decode cX10_isUsedBy 52 = .ok (.iinc 4 1, 3) := by decide +kernel
theorem dX10_isUsedBy_55 : decode cX10_isUsedBy 55 = .ok (.goto (-36), 3) := by decide +kernel
theorem dX10_isUsedBy_58 : decode cX10_isUsedBy 58 = .ok (.iload_n 3, 1) := by decide +kernel
theorem dX10_isUsedBy_59 : decode cX10_isUsedBy 59 = .ok (.ireturn, 1) := by decide +kernel
set_option maxRecDepth 20000 in
theorem ggX10_isFree_X10_isUsedBy : GoodIn wsX10_isFree wsX10_isUsedBy := goodIn_r _ [6, 7, 8, 9, 10, 11, 12, 13, 14, 15, 16, 17, 18, 19, 20, 21, 22, 23, 24, 25, 26, 27, 28, 29, 30, 31, 32, 33, 34, 35, 36, 37, 38, 39, 40, 41, 42, 43, 44, 45, 46] (by decide +kernel) (by decide +kernel)
set_option maxRecDepth 20000 in
theorem gX10_isFree_X10_isUsedBy : GoodIn wsX10_isFree (wsV RX10 221 RX10 yX10_isUsedBy wsX10_isUsedBy) := goodIn_app (goodIn_of _ (by decide +kernel)) ggX10_isFree_X10_isUsedBy
theorem dX10_isFree_0 : decode cX10_isFree 0 = .ok (.iload_n 1, 1) := by decide +kernel
theorem dX10_isFree_1 : decode cX10_isFree 1 = .ok (.iconst 2, 1) := by decide +kernel
theorem dX10_isFree_2 : decode cX10_isFree 2 = .ok (.if_icmp .lt 16, 3) := by decide +kernel
theorem dX10_isFree_5 : decode cX10_isFree 5 = .ok (.aload_n 0, 1) := by decide +kernel
theorem dX10_isFree_6 : decode cX10_isFree 6 = .ok (.iconst 0, 1) := by decide +kernel
theorem dX10_isFree_7 : decode cX10_isFree 7 = .ok (.iload_n 1, 1) := by decide +kernel
theorem dX10_isFree_8 : decode cX10_isFree 8 = .ok (.invokevirtual 221, 3) := by decide +kernel
theorem dX10_isFree_11 : decode cX10_isFree 11 = .ok (.ifCond .ne 7, 3) := by decide +kernel
theorem dX10_isFree_14 : decode cX10_isFree 14 = .ok (.iconst 1, 1) := by decide +kernel
theorem dX10_isFree_15 : decode cX10_isFree 15 = .ok (.goto 4, 3) := by decide +kernel
theorem dX10_isFree_18 : decode cX10_isFree 18 = .ok (.iconst 0, 1) := by decide +kernel
theorem dX10_isFree_19 : decode cX10_isFree 19 = .ok (.istore_n 2, 1) := by decide +kernel
theorem dX10_isFree_20 : decode cX10_isFree 20 = .ok (.iconst 0, 1) := by decide +kernel
theorem dX10_isFree_21 : decode cX10_isFree 21 = .ok (.istore_n 3, 1) := by decide +kernel
theorem dX10_isFree_22 : decode cX10_isFree 22 = .ok (.iload_n 3, 1) := by decide +kernel
theorem dX10_isFree_23 : decode cX10_isFree 23 = .ok (.iconst 2, 1) := by decide +kernel
theorem dX10_isFree_24 : decode cX10_isFree 24 = .ok (.if_icmp .ge 39, 3) := by decide +kernel
theorem dX10_isFree_27 : decode cX10_isFree 27 = .ok (.iload_n 2, 1) := by decide +kernel
theorem dX10_isFree_28 : decode cX10_isFree 28 = .ok (.ifCond .eq 27, 3) := by decide +kernel
theorem dX10_isFree_31 : decode cX10_isFree 31 = .ok (.aload_n 0, 1) := by decide +kernel
theorem dX10_isFree_32 : decode cX10_isFree 32 = .ok (.getfield 29, 3) := by decide +kernel
theorem dX10_isFree_35 : decode cX10_isFree 35 = .ok (.iload_n 3, 1) := by decide +kernel
theorem dX10_isFree_36 : decode cX10_isFree 36 = .ok (.baload, 1) := by decide +kernel
theorem dX10_isFree_37 : decode cX10_isFree 37 = .ok (.ifCond .eq 14, 3) := by decide +kernel
theorem dX10_isFree_40 : decode cX10_isFree 40 = .ok (.aload_n 0, 1) := by decide +kernel
theorem dX10_isFree_41 : decode cX10_isFree 41 = .ok (.iconst 1, 1) := by decide +kernel
theorem dX10_isFree_42 : decode cX10_isFree 42 = .ok (.iload_n 3, 1) := by decide +kernel
theorem dX10_isFree_43 : decode cX10_isFree 43 = .ok (.iadd, 1) := by decide +kernel
theorem dX10_isFree_44 : decode cX10_isFree 44 = .ok (.iload_n 1, 1) := by decide +kernel
theorem dX10_isFree_45 : decode cX10_isFree 45 = .ok (.invokevirtual 221, 3) := by decide +kernel
theorem dX10_isFree_48 : decode cX10_isFree 48 = .ok (.ifCond .ne 7, 3) := by decide +kernel
theorem dX10_isFree_51 : decode cX10_isFree 51 = .ok (.iconst 1, 1) := by decide +kernel
theorem dX10_isFree_52 : decode cX10_isFree 52 = .ok (.goto 4, 3) := by decide +kernel
theorem dX10_isFree_55 : decode cX10_isFree 55 = .ok (.iconst 0, 1) := by decide +kernel
theorem dX10_isFree_56 : decode cX10_isFree 56 = .ok (.istore_n 2, 1) := by decide +kernel
theorem dX10_isFree_57 : decode cX10_isFree 57 = .ok (.iinc 3 1, 3) := by decide +kernel
theorem dX10_isFree_60 : decode cX10_isFree 60 = .ok (.goto (-38), 3) := by decide +kernel
theorem dX10_isFree_63 : decode cX10_isFree 63 = .ok (.iload_n 2, 1) := by decide +kernel
theorem dX10_isFree_64 : decode cX10_isFree 64 = .ok (.ireturn, 1) := by decide +kernel
set_option maxRecDepth 20000 in
theorem ggX10_freeBlocks_X10_isFree : GoodIn wsX10_freeBlocks wsX10_isFree := goodIn_r _ [5, 6, 7, 8, 9, 4, 10, 11, 12, 13, 14, 15, 16, 17, 18, 19, 20, 21, 22, 23, 24, 25, 26, 27, 28, 29, 30, 31, 32, 33, 34, 35, 36, 37, 38, 39, 40, 41, 42, 43, 44, 45, 46, 47, 48, 49, 50] (by decide +kernel) (by decide +kernel)
set_option maxRecDepth 20000 in
theorem gX10_freeBlocks_X10_isFree : GoodIn wsX10_freeBlocks (wsV RX10 224 RX10 yX10_isFree wsX10_isFree) := goodIn_app (goodIn_of _ (by decide +kernel)) ggX10_freeBlocks_X10_isFree
theorem dX10_freeBlocks_0 : decode cX10_freeBlocks 0 = .ok (.iconst 0, 1) := by decide +kernel
theorem dX10_freeBlocks_1 : decode cX10_freeBlocks 1 = .ok (.istore_n 1, 1) := by decide +kernel
theorem dX10_freeBlocks_2 : decode cX10_freeBlocks 2 = .ok (.iconst 0, 1) := by decide +kernel
theorem dX10_freeBlocks_3 : decode cX10_freeBlocks 3 = .ok (.istore_n 2, 1) := by decide +kernel
theorem dX10_freeBlocks_4 : decode cX10_freeBlocks 4 = .ok (.iload_n 2, 1) := by decide +kernel
theorem dX10_freeBlocks_5 : decode cX10_freeBlocks 5 = .ok (.bipush 32, 2) := by decide +kernel
theorem dX10_freeBlocks_7 : decode cX10_freeBlocks 7 = .ok (.if_icmp .ge 25, 3) := by decide +kernel
theorem dX10_freeBlocks_10 : decode cX10_freeBlocks 10 = .ok (.iload_n 1, 1) := by decide +kernel
theorem dX10_freeBlocks_11 : decode cX10_freeBlocks 11 = .ok (.aload_n 0, 1) := by decide +kernel
theorem dX10_freeBlocks_12 : decode cX10_freeBlocks 12 = .ok (.iload_n 2, 1) := by decide +kernel
theorem dX10_freeBlocks_13 : decode cX10_freeBlocks 13 = .ok (.invokevirtual 224, 3) := by decide +kernel
theorem dX10_freeBlocks_16 : decode cX10_freeBlocks 16 = .ok (.ifCond .eq 7, 3) := by decide +kernel
theorem dX10_freeBlocks_19 : decode cX10_freeBlocks 19 = .ok (.iconst 1, 1) := by decide +kernel
theorem dX10_freeBlocks_20 : decode cX10_freeBlocks 20 = .ok (.goto 4, 3) := by decide +kernel
theorem dX10_freeBlocks_23 : decode cX10_freeBlocks 23 = .ok (.iconst 0, 1) := by decide +kernel
theorem dX10_freeBlocks_24 : decode cX10_freeBlocks 24 = .ok (.iadd, 1) := by decide +kernel
theorem dX10_freeBlocks_25 : decode cX10_freeBlocks 25 = .ok (.istore_n 1, 1) := by decide +kernel
theorem dX10_freeBlocks_26 : decode cX10_freeBlocks 26 = .ok (.iinc 2 1, 3) := by decide +kernel
theorem dX10_freeBlocks_29 : decode cX10_freeBlocks 29 = .ok (.goto (-25), 3) := by decide +kernel
theorem dX10_freeBlocks_32 : decode cX10_freeBlocks 32 = .ok (.iload_n 1, 1) := by decide +kernel
theorem dX10_freeBlocks_33 : decode cX10_freeBlocks 33 = .ok (.ireturn, 1) := by decide +kernel
theorem dX10_clearDraft_0 : decode cX10_clearDraft 0 = .ok (.iconst 0, 1) := by decide +kernel
theorem dX10_clearDraft_1 : decode cX10_clearDraft 1 = .ok (.istore_n 3, 1) := by decide +kernel
theorem dX10_clearDraft_2 : decode cX10_clearDraft 2 = .ok (.iload_n 3, 1) := by decide +kernel
theorem dX10_clearDraft_3 : decode cX10_clearDraft 3 = .ok (.bipush 13, 2) := by decide +kernel
theorem dX10_clearDraft_5 : decode cX10_clearDraft 5 = .ok (.if_icmp .ge 16, 3) := by decide +kernel
theorem dX10_clearDraft_8 : decode cX10_clearDraft 8 = .ok (.aload_n 0, 1) := by decide +kernel
theorem dX10_clearDraft_9 : decode cX10_clearDraft 9 = .ok (.getfield 93, 3) := by decide +kernel
theorem dX10_clearDraft_12 : decode cX10_clearDraft 12 = .ok (.iload_n 3, 1) := by decide +kernel
theorem dX10_clearDraft_13 : decode cX10_clearDraft 13 = .ok (.iconst 0, 1) := by decide +kernel
theorem dX10_clearDraft_14 : decode cX10_clearDraft 14 = .ok (.iastore, 1) := by decide +kernel
theorem dX10_clearDraft_15 : decode cX10_clearDraft 15 = .ok (.iinc 3 1, 3) := by decide +kernel
theorem dX10_clearDraft_18 : decode cX10_clearDraft 18 = .ok (.goto (-16), 3) := by decide +kernel
theorem dX10_clearDraft_21 : decode cX10_clearDraft 21 = .ok (.aload_n 0, 1) := by decide +kernel
theorem dX10_clearDraft_22 : decode cX10_clearDraft 22 = .ok (.getfield 93, 3) := by decide +kernel
theorem dX10_clearDraft_25 : decode cX10_clearDraft 25 = .ok (.iconst 0, 1) := by decide +kernel
theorem dX10_clearDraft_26 : decode cX10_clearDraft 26 = .ok (.iload_n 1, 1) := by decide +kernel
theorem dX10_clearDraft_27 : decode cX10_clearDraft 27 = .ok (.iastore, 1) := by decide +kernel
theorem dX10_clearDraft_28 : decode cX10_clearDraft 28 = .ok (.aload_n 0, 1) := by decide +kernel
theorem dX10_clearDraft_29 : decode cX10_clearDraft 29 = .ok (.getfield 93, 3) := by decide +kernel
theorem dX10_clearDraft_32 : decode cX10_clearDraft 32 = .ok (.iconst 1, 1) := by decide +kernel
theorem dX10_clearDraft_33 : decode cX10_clearDraft 33 = .ok (.iload_n 2, 1) := by decide +kernel
theorem dX10_clearDraft_34 : decode cX10_clearDraft 34 = .ok (.iastore, 1) := by decide +kernel
theorem dX10_clearDraft_35 : decode cX10_clearDraft 35 = .ok (.return_, 1) := by decide +kernel
theorem dX10_write_0 : decode cX10_write 0 = .ok (.iload_n 1, 1) := by decide +kernel
theorem dX10_write_1 : decode cX10_write 1 = .ok (.bipush 17, 2) := by decide +kernel
theorem dX10_write_3 : decode cX10_write 3 = .ok (.iadd, 1) := by decide +kernel
theorem dX10_write_4 : decode cX10_write 4 = .ok (.istore_n 2, 1) := by decide +kernel
theorem dX10_write_5 : decode cX10_write 5 = .ok (.iconst 0, 1) := by decide +kernel
theorem dX10_write_6 : decode cX10_write 6 = .ok (.istore_n 3, 1) := by decide +kernel
theorem dX10_write_7 : decode cX10_write 7 = .ok (.iload_n 3, 1) := by decide +kernel
theorem dX10_write_8 : decode cX10_write 8 = .ok (.bipush 12, 2) := by decide +kernel
theorem dX10_write_10 : decode cX10_write 10 = .ok (.if_icmp .ge 21, 3) := by decide +kernel
theorem dX10_write_13 : decode cX10_write 13 = .ok (.bipush 31, 2) := by decide +kernel
theorem dX10_write_15 : decode cX10_write 15 = .ok (.iload_n 2, 1) := by decide +kernel
theorem dX10_write_16 : decode cX10_write 16 = .ok (.imul, 1) := by decide +kernel
theorem dX10_write_17 : decode cX10_write 17 = .ok (.aload_n 0, 1) := by decide +kernel
theorem dX10_write_18 : decode cX10_write 18 = .ok (.getfield 93, 3) := by decide +kernel
theorem dX10_write_21 : decode cX10_write 21 = .ok (.iload_n 3, 1) := by decide +kernel
theorem dX10_write_22 : decode cX10_write 22 = .ok (.iaload, 1) := by decide +kernel
theorem dX10_write_23 : decode cX10_write 23 = .ok (.iadd, 1) := by decide +kernel
theorem dX10_write_24 : decode cX10_write 24 = .ok (.istore_n 2, 1) := by decide +kernel
theorem dX10_write_25 : decode cX10_write 25 = .ok (.iinc 3 1, 3) := by decide +kernel
theorem dX10_write_28 : decode cX10_write 28 = .ok (.goto (-21), 3) := by decide +kernel
theorem dX10_write_31 : decode cX10_write 31 = .ok (.aload_n 0, 1) := by decide +kernel
theorem dX10_write_32 : decode cX10_write 32 = .ok (.getfield 93, 3) := by decide +kernel
theorem dX10_write_35 : decode cX10_write 35 = .ok (.bipush 12, 2) := by decide +kernel
theorem dX10_write_37 : decode cX10_write 37 = .ok (.iload_n 2, 1) := by decide +kernel
theorem dX10_write_38 : decode cX10_write 38 = .ok (.iastore, 1) := by decide +kernel
theorem dX10_write_39 : decode cX10_write 39 = .ok (.aload_n 0, 1) := by decide +kernel
theorem dX10_write_40 : decode cX10_write 40 = .ok (.getfield 227, 3) := by decide +kernel
theorem dX10_write_43 : decode cX10_write 43 = .ok (.ifCond .le 8, 3) := by decide +kernel
theorem dX10_write_46 : decode cX10_write 46 = .ok (.bipush 13, 2) := by decide +kernel
theorem dX10_write_48 : decode cX10_write 48 = .ok (.goto 16, 3) := by decide +kernel
theorem dX10_write_51 : decode cX10_write 51 = .ok (.aload_n 0, 1) := by decide +kernel
theorem dX10_write_52 : decode cX10_write 52 = .ok (.getfield 227, 3) := by decide +kernel
theorem dX10_write_55 : decode cX10_write 55 = .ok (.ifCond .ne 8, 3) := by decide +kernel
theorem dX10_write_58 : decode cX10_write 58 = .ok (.bipush 6, 2) := by decide +kernel
theorem dX10_write_60 : decode cX10_write 60 = .ok (.goto 4, 3) := by decide +kernel
theorem dX10_write_63 : decode cX10_write 63 = .ok (.iconst 0, 1) := by decide +kernel
theorem dX10_write_64 : decode cX10_write 64 = .ok (.istore_n 3, 1) := by decide +kernel
theorem dX10_write_65 : decode cX10_write 65 = .ok (.aload_n 0, 1) := by decide +kernel
theorem dX10_write_66 : decode cX10_write 66 = .ok (.getfield 93, 3) := by decide +kernel
theorem dX10_write_69 : decode cX10_write 69 = .ok (.iconst 0, 1) := by decide +kernel
theorem dX10_write_70 : decode cX10_write 70 = .ok (.aload_n 0, 1) := by decide +kernel
theorem dX10_write_71 : decode cX10_write 71 = .ok (.getfield 9, 3) := by decide +kernel
theorem dX10_write_74 : decode cX10_write 74 = .ok (.bipush 13, 2) := by decide +kernel
theorem dX10_write_76 : decode cX10_write 76 = .ok (.iload_n 1, 1) := by decide +kernel
theorem dX10_write_77 : decode cX10_write 77 = .ok (.imul, 1) := by decide +kernel
theorem dX10_write_78 : decode cX10_write 78 = .ok (.iload_n 3, 1) := by decide +kernel
theorem dX10_write_79 : decode cX10_write 79 = .ok (.invokestatic 164, 3) := by decide +kernel
theorem dX10_write_82 : decode cX10_write 82 = .ok (.aload_n 0, 1) := by decide +kernel
theorem dX10_write_83 : decode cX10_write 83 = .ok (.dup, 1) := by decide +kernel
theorem dX10_write_84 : decode cX10_write 84 = .ok (.getfield 227, 3) := by decide +kernel
theorem dX10_write_87 : decode cX10_write 87 = .ok (.iconst 1, 1) := by decide +kernel
theorem dX10_write_88 : decode cX10_write 88 = .ok (.isub, 1) := by decide +kernel
theorem dX10_write_89 : decode cX10_write 89 = .ok (.putfield 227, 3) := by decide +kernel
theorem dX10_write_92 : decode cX10_write 92 = .ok (.return_, 1) := by decide +kernel
theorem dX10_logCommit_0 : decode cX10_logCommit 0 = .ok (.aload_n 0, 1) := by decide +kernel
theorem dX10_logCommit_1 : decode cX10_logCommit 1 = .ok (.getfield 66, 3) := by decide +kernel
theorem dX10_logCommit_4 : decode cX10_logCommit 4 = .ok (.iconst 0, 1) := by decide +kernel
theorem dX10_logCommit_5 : decode cX10_logCommit 5 = .ok (.aload_n 0, 1) := by decide +kernel
theorem dX10_logCommit_6 : decode cX10_logCommit 6 = .ok (.getfield 66, 3) := by decide +kernel
theorem dX10_logCommit_9 : decode cX10_logCommit 9 = .ok (.iconst 4, 1) := by decide +kernel
theorem dX10_logCommit_10 : decode cX10_logCommit 10 = .ok (.bipush 28, 2) := by decide +kernel
theorem dX10_logCommit_12 : decode cX10_logCommit 12 = .ok (.invokestatic 164, 3) := by decide +kernel
theorem dX10_logCommit_15 : decode cX10_logCommit 15 = .ok (.aload_n 0, 1) := by decide +kernel
theorem dX10_logCommit_16 : decode cX10_logCommit 16 = .ok (.getfield 66, 3) := by decide +kernel
theorem dX10_logCommit_19 : decode cX10_logCommit 19 = .ok (.iconst 0, 1) := by decide +kernel
theorem dX10_logCommit_20 : decode cX10_logCommit 20 = .ok (.iload_n 1, 1) := by decide +kernel
theorem dX10_logCommit_21 : decode cX10_logCommit 21 = .ok (.iastore, 1) := by decide +kernel
theorem dX10_logCommit_22 : decode cX10_logCommit 22 = .ok (.aload_n 0, 1) := by decide +kernel
theorem dX10_logCommit_23 : decode cX10_logCommit 23 = .ok (.getfield 66, 3) := by decide +kernel
theorem dX10_logCommit_26 : decode cX10_logCommit 26 = .ok (.iconst 1, 1) := by decide +kernel
theorem dX10_logCommit_27 : decode cX10_logCommit 27 = .ok (.aload_n 0, 1) := by decide +kernel
theorem dX10_logCommit_28 : decode cX10_logCommit 28 = .ok (.getfield 133, 3) := by decide +kernel
theorem dX10_logCommit_31 : decode cX10_logCommit 31 = .ok (.iastore, 1) := by decide +kernel
theorem dX10_logCommit_32 : decode cX10_logCommit 32 = .ok (.aload_n 0, 1) := by decide +kernel
theorem dX10_logCommit_33 : decode cX10_logCommit 33 = .ok (.getfield 66, 3) := by decide +kernel
theorem dX10_logCommit_36 : decode cX10_logCommit 36 = .ok (.iconst 2, 1) := by decide +kernel
theorem dX10_logCommit_37 : decode cX10_logCommit 37 = .ok (.iconst 0, 1) := by decide +kernel
theorem dX10_logCommit_38 : decode cX10_logCommit 38 = .ok (.iastore, 1) := by decide +kernel
theorem dX10_logCommit_39 : decode cX10_logCommit 39 = .ok (.iconst 0, 1) := by decide +kernel
theorem dX10_logCommit_40 : decode cX10_logCommit 40 = .ok (.istore_n 3, 1) := by decide +kernel
theorem dX10_logCommit_41 : decode cX10_logCommit 41 = .ok (.iload_n 3, 1) := by decide +kernel
theorem dX10_logCommit_42 : decode cX10_logCommit 42 = .ok (.bipush 8, 2) := by decide +kernel
theorem dX10_logCommit_44 : decode cX10_logCommit 44 = .ok (.if_icmp .ge 32, 3) := by decide +kernel
theorem dX10_logCommit_47 : decode cX10_logCommit 47 = .ok (.aload_n 0, 1) := by decide +kernel
theorem dX10_logCommit_48 : decode cX10_logCommit 48 = .ok (.getfield 66, 3) := by decide +kernel
theorem dX10_logCommit_51 : decode cX10_logCommit 51 = .ok (.iconst 2, 1) := by decide +kernel
theorem dX10_logCommit_52 : decode cX10_logCommit 52 = .ok (.dup2, 1) := by decide +kernel
theorem dX10_logCommit_53 : decode cX10_logCommit 53 = .ok (.iaload, 1) := by decide +kernel
theorem dX10_logCommit_54 : decode cX10_logCommit 54 = .ok (.aload_n 0, 1) := by decide +kernel
theorem dX10_logCommit_55 : decode cX10_logCommit 55 = .ok (.getfield 84, 3) := by decide +kernel
theorem dX10_logCommit_58 : decode cX10_logCommit 58 = .ok (.iload_n 3, 1) := by decide +kernel
theorem dX10_logCommit_59 : decode cX10_logCommit 59 = .ok (.baload, 1) := by decide +kernel
theorem dX10_logCommit_60 : decode cX10_logCommit 60 = .ok (.ifCond .eq 7, 3) := by decide +kernel
theorem dX10_logCommit_63 : decode cX10_logCommit 63 = .ok (.iconst 1, 1) := by decide +kernel
theorem dX10_logCommit_64 : decode cX10_logCommit 64 = .ok (.goto 4, 3) := by decide +kernel
theorem dX10_logCommit_67 : decode cX10_logCommit 67 = .ok (.iconst 0, 1) := by decide +kernel
theorem dX10_logCommit_68 : decode cX10_logCommit 68 = .ok (.iadd, 1) := by decide +kernel
theorem dX10_logCommit_69 : decode cX10_logCommit 69 = .ok (.iastore, 1) := by decide +kernel
theorem dX10_logCommit_70 : decode cX10_logCommit 70 = .ok (.iinc 3 1, 3) := by decide +kernel
theorem dX10_logCommit_73 : decode cX10_logCommit 73 = .ok (.goto (-32), 3) := by decide +kernel
theorem dX10_logCommit_76 : decode cX10_logCommit 76 = .ok (.aload_n 0, 1) := by decide +kernel
theorem dX10_logCommit_77 : decode cX10_logCommit 77 = .ok (.getfield 66, 3) := by decide +kernel
theorem dX10_logCommit_80 : decode cX10_logCommit 80 = .ok (.iconst 3, 1) := by decide +kernel
theorem dX10_logCommit_81 : decode cX10_logCommit 81 = .ok (.iload_n 2, 1) := by decide +kernel
theorem dX10_logCommit_82 : decode cX10_logCommit 82 = .ok (.iastore, 1) := by decide +kernel
theorem dX10_logCommit_83 : decode cX10_logCommit 83 = .ok (.aload_n 0, 1) := by decide +kernel
theorem dX10_logCommit_84 : decode cX10_logCommit 84 = .ok (.bipush 8, 2) := by decide +kernel
theorem dX10_logCommit_86 : decode cX10_logCommit 86 = .ok (.aload_n 0, 1) := by decide +kernel
theorem dX10_logCommit_87 : decode cX10_logCommit 87 = .ok (.getfield 230, 3) := by decide +kernel
theorem dX10_logCommit_90 : decode cX10_logCommit 90 = .ok (.iconst 1, 1) := by decide +kernel
theorem dX10_logCommit_91 : decode cX10_logCommit 91 = .ok (.iadd, 1) := by decide +kernel
theorem dX10_logCommit_92 : decode cX10_logCommit 92 = .ok (.invokestatic 233, 3) := by decide +kernel
theorem dX10_logCommit_95 : decode cX10_logCommit 95 = .ok (.putfield 230, 3) := by decide +kernel
theorem dX10_logCommit_98 : decode cX10_logCommit 98 = .ok (.aload_n 0, 1) := by decide +kernel
theorem dX10_logCommit_99 : decode cX10_logCommit 99 = .ok (.getfield 69, 3) := by decide +kernel
theorem dX10_logCommit_102 : decode cX10_logCommit 102 = .ok (.iload_n 1, 1) := by decide +kernel
theorem dX10_logCommit_103 : decode cX10_logCommit 103 = .ok (.ifCond .ge 7, 3) := by decide +kernel
theorem dX10_logCommit_106 : decode cX10_logCommit 106 = .ok (.iconst 1, 1) := by decide +kernel
theorem dX10_logCommit_107 : decode cX10_logCommit 107 = .ok (.goto 4, 3) := by decide +kernel
theorem dX10_logCommit_110 : decode cX10_logCommit 110 = .ok (.iconst 0, 1) := by decide +kernel
theorem dX10_logCommit_111 : decode cX10_logCommit 111 = .ok (.dup2, 1) := by decide +kernel
theorem dX10_logCommit_112 : decode cX10_logCommit 112 = .ok (.iaload, 1) := by decide +kernel
theorem dX10_logCommit_113 : decode cX10_logCommit 113 = .ok (.iconst 1, 1) := by decide +kernel
theorem dX10_logCommit_114 : decode cX10_logCommit 114 = .ok (.iadd, 1) := by decide +kernel
theorem dX10_logCommit_115 : decode cX10_logCommit 115 = .ok (.iastore, 1) := by decide +kernel
theorem dX10_logCommit_116 : decode cX10_logCommit 116 = .ok (.aload_n 0, 1) := by decide +kernel
theorem dX10_logCommit_117 : decode cX10_logCommit 117 = .ok (.getfield 69, 3) := by decide +kernel
theorem dX10_logCommit_120 : decode cX10_logCommit 120 = .ok (.iconst 2, 1) := by decide +kernel
theorem dX10_logCommit_121 : decode cX10_logCommit 121 = .ok (.dup2, 1) := by decide +kernel
theorem dX10_logCommit_122 : decode cX10_logCommit 122 = .ok (.iaload, 1) := by decide +kernel
theorem dX10_logCommit_123 : decode cX10_logCommit 123 = .ok (.iload_n 2, 1) := by decide +kernel
theorem dX10_logCommit_124 : decode cX10_logCommit 124 = .ok (.iadd, 1) := by decide +kernel
theorem dX10_logCommit_125 : decode cX10_logCommit 125 = .ok (.iastore, 1) := by decide +kernel
theorem dX10_logCommit_126 : decode cX10_logCommit 126 = .ok (.aload_n 0, 1) := by decide +kernel
theorem dX10_logCommit_127 : decode cX10_logCommit 127 = .ok (.getfield 69, 3) := by decide +kernel
theorem dX10_logCommit_130 : decode cX10_logCommit 130 = .ok (.iconst 3, 1) := by decide +kernel
theorem dX10_logCommit_131 : decode cX10_logCommit 131 = .ok (.dup2, 1) := by decide +kernel
theorem dX10_logCommit_132 : decode cX10_logCommit 132 = .ok (.iaload, 1) := by decide +kernel
theorem dX10_logCommit_133 : decode cX10_logCommit 133 = .ok (.iload_n 1, 1) := by decide +kernel
theorem dX10_logCommit_134 : decode cX10_logCommit 134 = .ok (.ifCond .ge 7, 3) := by decide +kernel
theorem dX10_logCommit_137 : decode cX10_logCommit 137 = .ok (.iconst 1, 1) := by decide +kernel
theorem dX10_logCommit_138 : decode cX10_logCommit 138 = .ok (.goto 4, 3) := by decide +kernel
theorem dX10_logCommit_141 : decode cX10_logCommit 141 = .ok (.iconst 0, 1) := by decide +kernel
theorem dX10_logCommit_142 : decode cX10_logCommit 142 = .ok (.iadd, 1) := by decide +kernel
theorem dX10_logCommit_143 : decode cX10_logCommit 143 = .ok (.iastore, 1) := by decide +kernel
theorem dX10_logCommit_144 : decode cX10_logCommit 144 = .ok (.return_, 1) := by decide +kernel
set_option maxRecDepth 20000 in
theorem ggX10_commit_X10_pagesToWrite : GoodIn wsX10_commit wsX10_pagesToWrite := goodIn_r _ [26, 27, 28, 29, 25, 30, 8, 11, 19, 12, 20, 2, 21, 31, 32, 33, 34, 35, 36, 37, 81, 82, 83, 84, 85, 86, 87, 88, 89, 90, 91, 92, 93, 94, 95, 96, 97, 98, 99, 100, 101, 102, 103, 104, 105, 106, 107, 108, 109, 110, 111, 112, 113, 114, 115, 116, 117, 118] (by decide +kernel) (by decide +kernel)
set_option maxRecDepth 20000 in
theorem gX10_commit_X10_pagesToWrite : GoodIn wsX10_commit (wsV RX10 218 RX10 yX10_pagesToWrite wsX10_pagesToWrite) := goodIn_app (goodIn_of _ (by decide +kernel)) ggX10_commit_X10_pagesToWrite
set_option maxRecDepth 20000 in
theorem ggX10_commit_X10_freeBlocks : GoodIn wsX10_commit wsX10_freeBlocks := goodIn_r _ [41, 42, 43, 44, 25, 45, 46, 47, 48, 49, 50, 18, 9, 81, 82, 83, 84, 85, 86, 87, 88, 89, 90, 91, 92, 93, 94, 95, 96, 97, 98, 99, 100, 101, 102, 103, 104, 105, 106, 107, 108, 109, 110, 111, 112, 113, 114, 115, 116, 117, 118] (by decide +kernel) (by decide +kernel)
set_option maxRecDepth 20000 in
theorem gX10_commit_X10_freeBlocks : GoodIn wsX10_commit (wsV RX10 238 RX10 yX10_freeBlocks wsX10_freeBlocks) := goodIn_app (goodIn_of _ (by decide +kernel)) ggX10_commit_X10_freeBlocks
set_option maxRecDepth 20000 in
theorem ggX10_commit_X10_isNewPage : GoodIn wsX10_commit wsX10_isNewPage := goodIn_r _ [37, 11, 8, 81, 82, 83, 84, 85, 86, 87, 88, 89, 90, 91, 92, 93, 94, 95, 96, 97, 98, 99, 100, 101, 102, 103, 104, 105, 106, 107, 108, 109, 110, 111, 112, 113, 114, 115, 116, 117, 118] (by decide +kernel) (by decide +kernel)
set_option maxRecDepth 20000 in
theorem gX10_commit_X10_isNewPage : GoodIn wsX10_commit (wsV RX10 215 RX10 yX10_isNewPage wsX10_isNewPage) := goodIn_app (goodIn_of _ (by decide +kernel)) ggX10_commit_X10_isNewPage
set_option maxRecDepth 20000 in
theorem ggX10_commit_X10_isFree : GoodIn wsX10_commit wsX10_isFree := goodIn_r _ [45, 46, 47, 48, 49, 25, 50, 18, 9, 81, 82, 83, 84, 85, 86, 87, 88, 89, 90, 91, 92, 93, 94, 95, 96, 97, 98, 99, 100, 101, 102, 103, 104, 105, 106, 107, 108, 109, 110, 111, 112, 113, 114, 115, 116, 117, 118] (by decide +kernel) (by decide +kernel)
set_option maxRecDepth 20000 in
theorem gX10_commit_X10_isFree : GoodIn wsX10_commit (wsV RX10 224 RX10 yX10_isFree wsX10_isFree) := goodIn_app (goodIn_of _ (by decide +kernel)) ggX10_commit_X10_isFree
set_option maxRecDepth 20000 in
theorem ggX10_commit_X10_clearDraft : GoodIn wsX10_commit wsX10_clearDraft := goodIn_r _ [54, 10, 81, 82, 83, 84, 85, 86, 87, 88, 89, 90, 91, 92, 93, 94, 95, 96, 97, 98, 99, 100, 101, 102, 103, 104, 105, 106, 107, 108, 109, 110, 111, 112, 113, 114, 115, 116, 117, 118] (by decide +kernel) (by decide +kernel)
set_option maxRecDepth 20000 in
theorem gX10_commit_X10_clearDraft : GoodIn wsX10_commit (wsV RX10 242 RX10 yX10_clearDraft wsX10_clearDraft) := goodIn_app (goodIn_of _ (by decide +kernel)) ggX10_commit_X10_clearDraft
set_option maxRecDepth 20000 in
theorem ggX10_commit_X10_write : GoodIn wsX10_commit wsX10_write := goodIn_r _ [58, 10, 6, 59, 13, 14, 15, 16, 81, 82, 83, 84, 85, 86, 87, 88, 89, 90, 91, 92, 93, 94, 95, 96, 97, 98, 99, 100, 101, 102, 103, 104, 105, 106, 107, 108, 109, 110, 111, 112, 113, 114, 115, 116, 117, 118] (by decide +kernel) (by decide +kernel)
set_option maxRecDepth 20000 in
theorem gX10_commit_X10_write : GoodIn wsX10_commit (wsV RX10 245 RX10 yX10_write wsX10_write) := goodIn_app (goodIn_of _ (by decide +kernel)) ggX10_commit_X10_write
set_option maxRecDepth 20000 in
theorem ggX10_commit_X10_logCommit : GoodIn wsX10_commit wsX10_logCommit := goodIn_r _ [63, 64, 13, 14, 15, 16, 2, 8, 65, 66, 67, 68, 69, 70, 81, 82, 83, 84, 85, 86, 87, 88, 89, 90, 91, 92, 93, 94, 95, 96, 97, 98, 99, 100, 101, 102, 103, 104, 105, 106, 107, 108, 109, 110, 111, 112, 113, 114, 115, 116, 117, 118] (by decide +kernel) (by decide +kernel)
set_option maxRecDepth 20000 in
theorem gX10_commit_X10_logCommit : GoodIn wsX10_commit (wsV RX10 248 RX10 yX10_logCommit wsX10_logCommit) := goodIn_app (goodIn_of _ (by decide +kernel)) ggX10_commit_X10_logCommit
set_option maxRecDepth 20000 in
theorem ggX10_commit_X10_restart : GoodIn wsX10_commit wsX10_restart := goodIn_r _ [74, 2, 46, 75, 76, 77, 25, 78, 79, 80, 31, 81, 82, 83, 84, 85, 86, 87, 88, 89, 90, 91, 92, 93, 94, 95, 96, 97, 98, 99, 100, 101, 102, 103, 104, 105, 106, 107, 108, 109, 110, 111, 112, 113, 114, 115, 116, 117, 118] (by decide +kernel) (by decide +kernel)
set_option maxRecDepth 20000 in
theorem gX10_commit_X10_restart : GoodIn wsX10_commit (wsV RX10 124 RX10 yX10_restart wsX10_restart) := goodIn_app (goodIn_of _ (by decide +kernel)) ggX10_commit_X10_restart
set_option maxRecDepth 20000 in
theorem ggX10_commit_X10_idle : GoodIn wsX10_commit wsX10_idle := goodIn_r _ [78, 79, 80, 31, 81, 82, 83, 84, 85, 86, 87, 88, 89, 90, 91, 92, 93, 94, 95, 96, 97, 98, 99, 100, 101, 102, 103, 104, 105, 106, 107, 108, 109, 110, 111, 112, 113, 114, 115, 116, 117, 118] (by decide +kernel) (by decide +kernel)
set_option maxRecDepth 20000 in
theorem gX10_commit_X10_idle : GoodIn wsX10_commit (wsV RX10 130 RX10 yX10_idle wsX10_idle) := goodIn_app (goodIn_of _ (by decide +kernel)) ggX10_commit_X10_idle
theorem dX10_commit_0 : decode cX10_commit 0 = .ok (.aload_n 0, 1) := by decide +kernel
theorem dX10_commit_1 : decode cX10_commit 1 = .ok (.iload_n 1, 1) := by decide +kernel
theorem dX10_commit_2 : decode cX10_commit 2 = .ok (.iconst (-1), 1) := by decide +kernel
theorem dX10_commit_3 : decode cX10_commit 3 = .ok (.if_icmp .ge 7, 3) := by decide +kernel
theorem dX10_commit_6 : decode cX10_commit 6 = .ok (.iconst 1, 1) := by decide +kernel
theorem dX10_commit_7 : decode cX10_commit 7 = .ok (.goto 50, 3) := by decide +kernel
theorem dX10_commit_10 : decode cX10_commit 10 = .ok (.aload_n 0, 1) := by decide +kernel
theorem dX10_commit_11 : decode cX10_commit 11 = .ok (.getfield 116, 3) := by decide +kernel
theorem dX10_commit_14 : decode cX10_commit 14 = .ok (.ifCond .eq 10, 3) := by decide +kernel
theorem dX10_commit_17 : decode cX10_commit 17 = .ok (.aload_n 0, 1) := by decide +kernel
theorem dX10_commit_18 : decode cX10_commit 18 = .ok (.getfield 133, 3) := by decide +kernel
theorem dX10_commit_21 : decode cX10_commit 21 = .ok (.ifCond .ne 7, 3) := by decide +kernel
theorem dX10_commit_24 : decode cX10_commit 24 = .ok (.iconst 2, 1) := by decide +kernel
theorem dX10_commit_25 : decode cX10_commit 25 = .ok (.goto 32, 3) := by decide +kernel
theorem dX10_commit_28 : decode cX10_commit 28 = .ok (.aload_n 0, 1) := by decide +kernel
theorem dX10_commit_29 : decode cX10_commit 29 = .ok (.invokevirtual 218, 3) := by decide +kernel
theorem dX10_commit_32 : decode cX10_commit 32 = .ok (.iconst 1, 1) := by decide +kernel
theorem dX10_commit_33 : decode cX10_commit 33 = .ok (.iadd, 1) := by decide +kernel
theorem dX10_commit_34 : decode cX10_commit 34 = .ok (.aload_n 0, 1) := by decide +kernel
theorem dX10_commit_35 : decode cX10_commit 35 = .ok (.invokevirtual 238, 3) := by decide +kernel
theorem dX10_commit_38 : decode cX10_commit 38 = .ok (.if_icmp .gt 14, 3) := by decide +kernel
theorem dX10_commit_41 : decode cX10_commit 41 = .ok (.aload_n 0, 1) := by decide +kernel
theorem dX10_commit_42 : decode cX10_commit 42 = .ok (.getfield 13, 3) := by decide +kernel
theorem dX10_commit_45 : decode cX10_commit 45 = .ok (.iconst 0, 1) := by decide +kernel
theorem dX10_commit_46 : decode cX10_commit 46 = .ok (.iaload, 1) := by decide +kernel
theorem dX10_commit_47 : decode cX10_commit 47 = .ok (.ldc 241, 2) := by decide +kernel
theorem dX10_commit_49 : decode cX10_commit 49 = .ok (.if_icmp .ne 7, 3) := by decide +kernel
theorem dX10_commit_52 : decode cX10_commit 52 = .ok (.iconst 3, 1) := by decide +kernel
theorem dX10_commit_53 : decode cX10_commit 53 = .ok (.goto 4, 3) := by decide +kernel
theorem dX10_commit_56 : decode cX10_commit 56 = .ok (.iconst 0, 1) := by decide +kernel
theorem dX10_commit_57 : decode cX10_commit 57 = .ok (.putfield 100, 3) := by decide +kernel
theorem dX10_commit_60 : decode cX10_commit 60 = .ok (.aload_n 0, 1) := by decide +kernel
theorem dX10_commit_61 : decode cX10_commit 61 = .ok (.getfield 100, 3) := by decide +kernel
theorem dX10_commit_64 : decode cX10_commit 64 = .ok (.ifCond .le 5, 3) := by decide +kernel
theorem dX10_commit_67 : decode cX10_commit 67 = .ok (.iconst 0, 1) := by decide +kernel
theorem dX10_commit_68 : decode cX10_commit 68 = .ok (.ireturn, 1) := by decide +kernel
theorem dX10_commit_69 : decode cX10_commit 69 = .ok (.aload_n 0, 1) := by decide +kernel
theorem dX10_commit_70 : decode cX10_commit 70 = .ok (.invokevirtual 218, 3) := by decide +kernel
theorem dX10_commit_73 : decode cX10_commit 73 = .ok (.iconst 2, 1) := by decide +kernel
theorem dX10_commit_74 : decode cX10_commit 74 = .ok (.iadd, 1) := by decide +kernel
theorem dX10_commit_75 : decode cX10_commit 75 = .ok (.istore_n 2, 1) := by decide +kernel
theorem dX10_commit_76 : decode cX10_commit 76 = .ok (.iload_n 1, 1) := by decide +kernel
theorem dX10_commit_77 : decode cX10_commit 77 = .ok (.ifCond .lt 8, 3) := by decide +kernel
theorem dX10_commit_80 : decode cX10_commit 80 = .ok (.iload_n 1, 1) := by decide +kernel
theorem dX10_commit_81 : decode cX10_commit 81 = .ok (.iload_n 2, 1) := by decide +kernel
theorem dX10_commit_82 : decode cX10_commit 82 = .ok (.if_icmp .lt 7, 3) := by decide +kernel
theorem dX10_commit_85 : decode cX10_commit 85 = .ok (.iconst 1, 1) := by decide +kernel
theorem dX10_commit_86 : decode cX10_commit 86 = .ok (.goto 4, 3) := by decide +kernel
theorem dX10_commit_89 : decode cX10_commit 89 = .ok (.iconst 0, 1) := by decide +kernel
theorem dX10_commit_90 : decode cX10_commit 90 = .ok (.istore_n 3, 1) := by decide +kernel
theorem dX10_commit_91 : decode cX10_commit 91 = .ok (.aload_n 0, 1) := by decide +kernel
theorem dX10_commit_92 : decode cX10_commit 92 = .ok (.iload_n 3, 1) := by decide +kernel
theorem dX10_commit_93 : decode cX10_commit 93 = .ok (.ifCond .eq 7, 3) := by decide +kernel
theorem dX10_commit_96 : decode cX10_commit 96 = .ok (.iload_n 2, 1) := by decide +kernel
theorem dX10_commit_97 : decode cX10_commit 97 = .ok (.goto 4, 3) := by decide +kernel
theorem dX10_commit_100 : decode cX10_commit 100 = .ok (.iload_n 1, 1) := by decide +kernel
theorem dX10_commit_101 : decode cX10_commit 101 = .ok (.putfield 227, 3) := by decide +kernel
theorem dX10_commit_104 : decode cX10_commit 104 = .ok (.aload_n 0, 1) := by decide +kernel
theorem dX10_commit_105 : decode cX10_commit 105 = .ok (.getfield 13, 3) := by decide +kernel
theorem dX10_commit_108 : decode cX10_commit 108 = .ok (.iconst 0, 1) := by decide +kernel
theorem dX10_commit_109 : decode cX10_commit 109 = .ok (.iaload, 1) := by decide +kernel
theorem dX10_commit_110 : decode cX10_commit 110 = .ok (.iconst 1, 1) := by decide +kernel
theorem dX10_commit_111 : decode cX10_commit 111 = .ok (.iadd, 1) := by decide +kernel
theorem dX10_commit_112 : decode cX10_commit 112 = .ok (.istore 4, 2) := by decide +kernel
theorem dX10_commit_114 : decode cX10_commit 114 = .ok (.iconst 2, 1) := by decide +kernel
theorem dX10_commit_115 : decode cX10_commit 115 = .ok (.istore 5, 2) := by decide +kernel
theorem dX10_commit_117 : decode cX10_commit 117 = .ok (.bipush 8, 2) := by decide +kernel
theorem dX10_commit_119 : decode cX10_commit 119 = .ok (.newarray .int, 2) := by decide +kernel
theorem dX10_commit_121 : decode cX10_commit 121 = .ok (.astore 6, 2) := by decide +kernel
theorem dX10_commit_123 : decode cX10_commit 123 = .ok (.iconst 0, 1) := by decide +kernel
theorem dX10_commit_124 : decode cX10_commit 124 = .ok (.istore 7, 2) := by decide +kernel
theorem dX10_commit_126 : decode cX10_commit 126 = .ok (.iload 7, 2) := by decide +kernel
theorem dX10_commit_128 : decode cX10_commit 128 = .ok (.bipush 8, 2) := by decide +kernel
theorem dX10_commit_130 : decode cX10_commit 130 = .ok (.if_icmp .ge 173, 3) := by decide +kernel
theorem dX10_commit_133 : decode cX10_commit 133 = .ok (.aload 6, 2) := by decide +kernel
theorem dX10_commit_135 : decode cX10_commit 135 = .ok (.iload 7, 2) := by decide +kernel
theorem dX10_commit_137 : decode cX10_commit 137 = .ok (.aload_n 0, 1) := by decide +kernel
theorem dX10_commit_138 : decode cX10_commit 138 = .ok (.getfield 84, 3) := by decide +kernel
theorem dX10_commit_141 : decode cX10_commit 141 = .ok (.iload 7, 2) := by decide +kernel
theorem dX10_commit_143 : decode cX10_commit 143 = .ok (.baload, 1) := by decide +kernel
theorem dX10_commit_144 : decode cX10_commit 144 = .ok (.ifCond .eq 7, 3) := by decide +kernel
theorem dX10_commit_147 : decode cX10_commit 147 = .ok (.iconst (-1), 1) := by decide +kernel
theorem dX10_commit_148 : decode cX10_commit 148 = .ok (.goto 10, 3) := by decide +kernel
theorem dX10_commit_151 : decode cX10_commit 151 = .ok (.aload_n 0, 1) := by decide +kernel
theorem dX10_commit_152 : decode cX10_commit 152 = .ok (.getfield 19, 3) := by decide +kernel
theorem dX10_commit_155 : decode cX10_commit 155 = .ok (.iload 7, 2) := by decide +kernel
theorem dX10_commit_157 : decode cX10_commit 157 = .ok (.iaload, 1) := by decide +kernel
theorem dX10_commit_158 : decode cX10_commit 158 = .ok (.iastore, 1) := by decide +kernel
theorem dX10_commit_159 : decode cX10_commit 159 = .ok (.aload_n 0, 1) := by decide +kernel
theorem dX10_commit_160 : decode cX10_commit 160 = .ok (.iload 7, 2) := by decide +kernel
theorem dX10_commit_162 : decode cX10_commit 162 = .ok (.invokevirtual 215, 3) := by decide +kernel
theorem dX10_commit_165 : decode cX10_commit 165 = .ok (.ifCond .eq 132, 3) := by decide +kernel
theorem dX10_commit_168 : decode cX10_commit 168 = .ok (.aload_n 0, 1) := by decide +kernel
theorem dX10_commit_169 : decode cX10_commit 169 = .ok (.iload 5, 2) := by decide +kernel
theorem dX10_commit_171 : decode cX10_commit 171 = .ok (.invokevirtual 224, 3) := by decide +kernel
theorem dX10_commit_174 : decode cX10_commit 174 = .ok (.ifCond .ne 9, 3) := by decide +kernel
theorem dX10_commit_177 : decode cX10_commit 177 = .ok (.iinc 5 1, 3) := by decide +kernel
theorem dX10_commit_180 : decode cX10_commit 180 = .ok (.goto (-12), 3) := by decide +kernel
theorem dX10_commit_183 : decode cX10_commit 183 = .ok (.aload 6, 2) := by decide +kernel
theorem dX10_commit_185 : decode cX10_commit 185 = .ok (.iload 7, 2) := by decide +kernel
theorem dX10_commit_187 : decode cX10_commit 187 = .ok (.iload 5, 2) := by decide +kernel
theorem dX10_commit_189 : decode cX10_commit 189 = .ok (.iastore, 1) := by decide +kernel
theorem dX10_commit_190 : decode cX10_commit 190 = .ok (.aload_n 0, 1) := by decide +kernel
theorem dX10_commit_191 : decode cX10_commit 191 = .ok (.iconst 3, 1) := by decide +kernel
theorem dX10_commit_192 : decode cX10_commit 192 = .ok (.iload 4, 2) := by decide +kernel
theorem dX10_commit_194 : decode cX10_commit 194 = .ok (.invokevirtual 242, 3) := by decide +kernel
theorem dX10_commit_197 : decode cX10_commit 197 = .ok (.aload_n 0, 1) := by decide +kernel
theorem dX10_commit_198 : decode cX10_commit 198 = .ok (.getfield 93, 3) := by decide +kernel
theorem dX10_commit_201 : decode cX10_commit 201 = .ok (.iconst 2, 1) := by decide +kernel
theorem dX10_commit_202 : decode cX10_commit 202 = .ok (.iload 7, 2) := by decide +kernel
theorem dX10_commit_204 : decode cX10_commit 204 = .ok (.iastore, 1) := by decide +kernel
theorem dX10_commit_205 : decode cX10_commit 205 = .ok (.iconst 0, 1) := by decide +kernel
theorem dX10_commit_206 : decode cX10_commit 206 = .ok (.istore 8, 2) := by decide +kernel
theorem dX10_commit_208 : decode cX10_commit 208 = .ok (.iload 8, 2) := by decide +kernel
theorem dX10_commit_210 : decode cX10_commit 210 = .ok (.bipush 8, 2) := by decide +kernel
theorem dX10_commit_212 : decode cX10_commit 212 = .ok (.if_icmp .ge 76, 3) := by decide +kernel
theorem dX10_commit_215 : decode cX10_commit 215 = .ok (.iload 7, 2) := by decide +kernel
theorem dX10_commit_217 : decode cX10_commit 217 = .ok (.bipush 8, 2) := by decide +kernel
theorem dX10_commit_219 : decode cX10_commit 219 = .ok (.iload 8, 2) := by decide +kernel
theorem dX10_commit_221 : decode cX10_commit 221 = .ok (.imul, 1) := by decide +kernel
theorem dX10_commit_222 : decode cX10_commit 222 = .ok (.iadd, 1) := by decide +kernel
theorem dX10_commit_223 : decode cX10_commit 223 = .ok (.istore 9, 2) := by decide +kernel
theorem dX10_commit_225 : decode cX10_commit 225 = .ok (.aload_n 0, 1) := by decide +kernel
theorem dX10_commit_226 : decode cX10_commit 226 = .ok (.getfield 93, 3) := by decide +kernel
theorem dX10_commit_229 : decode cX10_commit 229 = .ok (.iconst 3, 1) := by decide +kernel
theorem dX10_commit_230 : decode cX10_commit 230 = .ok (.dup2, 1) := by decide +kernel
theorem dX10_commit_231 : decode cX10_commit 231 = .ok (.iaload, 1) := by decide +kernel
theorem dX10_commit_232 : decode cX10_commit 232 = .ok (.aload_n 0, 1) := by decide +kernel
theorem dX10_commit_233 : decode cX10_commit 233 = .ok (.getfield 87, 3) := by decide +kernel
theorem dX10_commit_236 : decode cX10_commit 236 = .ok (.iload 9, 2) := by decide +kernel
theorem dX10_commit_238 : decode cX10_commit 238 = .ok (.baload, 1) := by decide +kernel
theorem dX10_commit_239 : decode cX10_commit 239 = .ok (.ifCond .eq 10, 3) := by decide +kernel
theorem dX10_commit_242 : decode cX10_commit 242 = .ok (.iconst 1, 1) := by decide +kernel
theorem dX10_commit_243 : decode cX10_commit 243 = .ok (.iload 8, 2) := by decide +kernel
theorem dX10_commit_245 : decode cX10_commit 245 = .ok (.ishl, 1) := by decide +kernel
theorem dX10_commit_246 : decode cX10_commit 246 = .ok (.goto 4, 3) := by decide +kernel
theorem dX10_commit_249 : decode cX10_commit 249 = .ok (.iconst 0, 1) := by decide +kernel
theorem dX10_commit_250 : decode cX10_commit 250 = .ok (.ior, 1) := by decide +kernel
theorem dX10_commit_251 : decode cX10_commit 251 = .ok (.iastore, 1) := by decide +kernel
theorem dX10_commit_252 : decode cX10_commit 252 = .ok (.aload_n 0, 1) := by decide +kernel
theorem dX10_commit_253 : decode cX10_commit 253 = .ok (.getfield 93, 3) := by decide +kernel
theorem dX10_commit_256 : decode cX10_commit 256 = .ok (.iconst 4, 1) := by decide +kernel
theorem dX10_commit_257 : decode cX10_commit 257 = .ok (.iload 8, 2) := by decide +kernel
theorem dX10_commit_259 : decode cX10_commit 259 = .ok (.iadd, 1) := by decide +kernel
theorem dX10_commit_260 : decode cX10_commit 260 = .ok (.aload_n 0, 1) := by decide +kernel
theorem dX10_commit_261 : decode cX10_commit 261 = .ok (.getfield 87, 3) := by decide +kernel
theorem dX10_commit_264 : decode cX10_commit 264 = .ok (.iload 9, 2) := by decide +kernel
theorem dX10_commit_266 : decode cX10_commit 266 = .ok (.baload, 1) := by decide +kernel
theorem dX10_commit_267 : decode cX10_commit 267 = .ok (.ifCond .eq 13, 3) := by decide +kernel
theorem dX10_commit_270 : decode cX10_commit 270 = .ok (.aload_n 0, 1) := by decide +kernel
theorem dX10_commit_271 : decode cX10_commit 271 = .ok (.getfield 90, 3) := by decide +kernel
theorem dX10_commit_274 : decode cX10_commit 274 = .ok (.iload 9, 2) := by decide +kernel
theorem dX10_commit_276 : decode cX10_commit 276 = .ok (.iaload, 1) := by decide +kernel
theorem dX10_commit_277 : decode cX10_commit 277 = .ok (.goto 4, 3) := by decide +kernel
theorem dX10_commit_280 : decode cX10_commit 280 = .ok (.iconst 0, 1) := by decide +kernel
theorem dX10_commit_281 : decode cX10_commit 281 = .ok (.iastore, 1) := by decide +kernel
theorem dX10_commit_282 : decode cX10_commit 282 = .ok (.iinc 8 1, 3) := by decide +kernel
theorem dX10_commit_285 : decode cX10_commit 285 = .ok (.goto (-77), 3) := by decide +kernel
theorem dX10_commit_288 : decode cX10_commit 288 = .ok (.aload_n 0, 1) := by decide +kernel
theorem dX10_commit_289 : decode cX10_commit 289 = .ok (.iload 5, 2) := by decide +kernel
theorem dX10_commit_291 : decode cX10_commit 291 = .ok (.invokevirtual 245, 3) := by decide +kernel
theorem dX10_commit_294 : decode cX10_commit 294 = .ok (.iinc 5 1, 3) := by decide +kernel
theorem dX10_commit_297 : decode cX10_commit 297 = .ok (.iinc 7 1, 3) := by decide +kernel
theorem dX10_commit_300 : decode cX10_commit 300 = .ok (.goto (-174), 3) := by decide +kernel
theorem dX10_commit_303 : decode cX10_commit 303 = .ok (.aload_n 0, 1) := by decide +kernel
theorem dX10_commit_304 : decode cX10_commit 304 = .ok (.iload 5, 2) := by decide +kernel
theorem dX10_commit_306 : decode cX10_commit 306 = .ok (.invokevirtual 224, 3) := by decide +kernel
theorem dX10_commit_309 : decode cX10_commit 309 = .ok (.ifCond .ne 9, 3) := by decide +kernel
theorem dX10_commit_312 : decode cX10_commit 312 = .ok (.iinc 5 1, 3) := by decide +kernel
theorem dX10_commit_315 : decode cX10_commit 315 = .ok (.goto (-12), 3) := by decide +kernel
theorem dX10_commit_318 : decode cX10_commit 318 = .ok (.aload_n 0, 1) := by decide +kernel
theorem dX10_commit_319 : decode cX10_commit 319 = .ok (.iconst 2, 1) := by decide +kernel
theorem dX10_commit_320 : decode cX10_commit 320 = .ok (.iload 4, 2) := by decide +kernel
theorem dX10_commit_322 : decode cX10_commit 322 = .ok (.invokevirtual 242, 3) := by decide +kernel
theorem dX10_commit_325 : decode cX10_commit 325 = .ok (.aload 6, 2) := by decide +kernel
theorem dX10_commit_327 : decode cX10_commit 327 = .ok (.iconst 0, 1) := by decide +kernel
theorem dX10_commit_328 : decode cX10_commit 328 = .ok (.aload_n 0, 1) := by decide +kernel
theorem dX10_commit_329 : decode cX10_commit 329 = .ok (.getfield 93, 3) := by decide +kernel
theorem dX10_commit_332 : decode cX10_commit 332 = .ok (.iconst 4, 1) := by decide +kernel
theorem dX10_commit_333 : decode cX10_commit 333 = .ok (.bipush 8, 2) := by decide +kernel
theorem dX10_commit_335 : decode cX10_commit 335 = .ok (.invokestatic 164, 3) := by decide +kernel
theorem dX10_commit_338 : decode cX10_commit 338 = .ok (.aload_n 0, 1) := by decide +kernel
theorem dX10_commit_339 : decode cX10_commit 339 = .ok (.iload 5, 2) := by decide +kernel
theorem dX10_commit_341 : decode cX10_commit 341 = .ok (.invokevirtual 245, 3) := by decide +kernel
theorem dX10_commit_344 : decode cX10_commit 344 = .ok (.aload_n 0, 1) := by decide +kernel
theorem dX10_commit_345 : decode cX10_commit 345 = .ok (.iconst 1, 1) := by decide +kernel
theorem dX10_commit_346 : decode cX10_commit 346 = .ok (.iload 4, 2) := by decide +kernel
theorem dX10_commit_348 : decode cX10_commit 348 = .ok (.invokevirtual 242, 3) := by decide +kernel
theorem dX10_commit_351 : decode cX10_commit 351 = .ok (.aload_n 0, 1) := by decide +kernel
theorem dX10_commit_352 : decode cX10_commit 352 = .ok (.getfield 93, 3) := by decide +kernel
theorem dX10_commit_355 : decode cX10_commit 355 = .ok (.iconst 2, 1) := by decide +kernel
theorem dX10_commit_356 : decode cX10_commit 356 = .ok (.iload 5, 2) := by decide +kernel
theorem dX10_commit_358 : decode cX10_commit 358 = .ok (.iastore, 1) := by decide +kernel
theorem dX10_commit_359 : decode cX10_commit 359 = .ok (.aload_n 0, 1) := by decide +kernel
theorem dX10_commit_360 : decode cX10_commit 360 = .ok (.iload 4, 2) := by decide +kernel
theorem dX10_commit_362 : decode cX10_commit 362 = .ok (.iconst 2, 1) := by decide +kernel
theorem dX10_commit_363 : decode cX10_commit 363 = .ok (.irem, 1) := by decide +kernel
theorem dX10_commit_364 : decode cX10_commit 364 = .ok (.invokevirtual 245, 3) := by decide +kernel
theorem dX10_commit_367 : decode cX10_commit 367 = .ok (.aload_n 0, 1) := by decide +kernel
theorem dX10_commit_368 : decode cX10_commit 368 = .ok (.iload_n 3, 1) := by decide +kernel
theorem dX10_commit_369 : decode cX10_commit 369 = .ok (.ifCond .eq 8, 3) := by decide +kernel
theorem dX10_commit_372 : decode cX10_commit 372 = .ok (.iload 4, 2) := by decide +kernel
theorem dX10_commit_374 : decode cX10_commit 374 = .ok (.goto 4, 3) := by decide +kernel
theorem dX10_commit_377 : decode cX10_commit 377 = .ok (.iconst (-1), 1) := by decide +kernel
theorem dX10_commit_378 : decode cX10_commit 378 = .ok (.iload_n 3, 1) := by decide +kernel
theorem dX10_commit_379 : decode cX10_commit 379 = .ok (.ifCond .eq 7, 3) := by decide +kernel
theorem dX10_commit_382 : decode cX10_commit 382 = .ok (.iload_n 2, 1) := by decide +kernel
theorem dX10_commit_383 : decode cX10_commit 383 = .ok (.goto 4, 3) := by decide +kernel
theorem dX10_commit_386 : decode cX10_commit 386 = .ok (.iload_n 1, 1) := by decide +kernel
theorem dX10_commit_387 : decode cX10_commit 387 = .ok (.invokevirtual 248, 3) := by decide +kernel
theorem dX10_commit_390 : decode cX10_commit 390 = .ok (.iload_n 3, 1) := by decide +kernel
theorem dX10_commit_391 : decode cX10_commit 391 = .ok (.ifCond .ne 14, 3) := by decide +kernel
theorem dX10_commit_394 : decode cX10_commit 394 = .ok (.aload_n 0, 1) := by decide +kernel
theorem dX10_commit_395 : decode cX10_commit 395 = .ok (.invokevirtual 124, 3) := by decide +kernel
theorem dX10_commit_398 : decode cX10_commit 398 = .ok (.aload_n 0, 1) := by decide +kernel
theorem dX10_commit_399 : decode cX10_commit 399 = .ok (.iconst 0, 1) := by decide +kernel
theorem dX10_commit_400 : decode cX10_commit 400 = .ok (.putfield 116, 3) := by decide +kernel
theorem dX10_commit_403 : decode cX10_commit 403 = .ok (.iconst (-1), 1) := by decide +kernel
theorem dX10_commit_404 : decode cX10_commit 404 = .ok (.ireturn, 1) := by decide +kernel
theorem dX10_commit_405 : decode cX10_commit 405 = .ok (.aload_n 0, 1) := by decide +kernel
theorem dX10_commit_406 : decode cX10_commit 406 = .ok (.iload 4, 2) := by decide +kernel
theorem dX10_commit_408 : decode cX10_commit 408 = .ok (.iconst 2, 1) := by decide +kernel
theorem dX10_commit_409 : decode cX10_commit 409 = .ok (.irem, 1) := by decide +kernel
theorem dX10_commit_410 : decode cX10_commit 410 = .ok (.putfield 127, 3) := by decide +kernel
theorem dX10_commit_413 : decode cX10_commit 413 = .ok (.aload_n 0, 1) := by decide +kernel
theorem dX10_commit_414 : decode cX10_commit 414 = .ok (.getfield 13, 3) := by decide +kernel
theorem dX10_commit_417 : decode cX10_commit 417 = .ok (.iconst 0, 1) := by decide +kernel
theorem dX10_commit_418 : decode cX10_commit 418 = .ok (.iload 4, 2) := by decide +kernel
theorem dX10_commit_420 : decode cX10_commit 420 = .ok (.iastore, 1) := by decide +kernel
theorem dX10_commit_421 : decode cX10_commit 421 = .ok (.aload_n 0, 1) := by decide +kernel
theorem dX10_commit_422 : decode cX10_commit 422 = .ok (.getfield 16, 3) := by decide +kernel
theorem dX10_commit_425 : decode cX10_commit 425 = .ok (.iconst 0, 1) := by decide +kernel
theorem dX10_commit_426 : decode cX10_commit 426 = .ok (.iload 5, 2) := by decide +kernel
theorem dX10_commit_428 : decode cX10_commit 428 = .ok (.iastore, 1) := by decide +kernel
theorem dX10_commit_429 : decode cX10_commit 429 = .ok (.aload 6, 2) := by decide +kernel
theorem dX10_commit_431 : decode cX10_commit 431 = .ok (.iconst 0, 1) := by decide +kernel
theorem dX10_commit_432 : decode cX10_commit 432 = .ok (.aload_n 0, 1) := by decide +kernel
theorem dX10_commit_433 : decode cX10_commit 433 = .ok (.getfield 19, 3) := by decide +kernel
theorem dX10_commit_436 : decode cX10_commit 436 = .ok (.iconst 0, 1) := by decide +kernel
theorem dX10_commit_437 : decode cX10_commit 437 = .ok (.bipush 8, 2) := by decide +kernel
theorem dX10_commit_439 : decode cX10_commit 439 = .ok (.invokestatic 164, 3) := by decide +kernel
theorem dX10_commit_442 : decode cX10_commit 442 = .ok (.aload_n 0, 1) := by decide +kernel
theorem dX10_commit_443 : decode cX10_commit 443 = .ok (.getfield 87, 3) := by decide +kernel
theorem dX10_commit_446 : decode cX10_commit 446 = .ok (.iconst 0, 1) := by decide +kernel
theorem dX10_commit_447 : decode cX10_commit 447 = .ok (.aload_n 0, 1) := by decide +kernel
theorem dX10_commit_448 : decode cX10_commit 448 = .ok (.getfield 22, 3) := by decide +kernel
theorem dX10_commit_451 : decode cX10_commit 451 = .ok (.iconst 0, 1) := by decide +kernel
theorem dX10_commit_452 : decode cX10_commit 452 = .ok (.bipush 64, 2) := by decide +kernel
theorem dX10_commit_454 : decode cX10_commit 454 = .ok (.invokestatic 164, 3) := by decide +kernel
theorem dX10_commit_457 : decode cX10_commit 457 = .ok (.aload_n 0, 1) := by decide +kernel
theorem dX10_commit_458 : decode cX10_commit 458 = .ok (.getfield 90, 3) := by decide +kernel
theorem dX10_commit_461 : decode cX10_commit 461 = .ok (.iconst 0, 1) := by decide +kernel
theorem dX10_commit_462 : decode cX10_commit 462 = .ok (.aload_n 0, 1) := by decide +kernel
theorem dX10_commit_463 : decode cX10_commit 463 = .ok (.getfield 26, 3) := by decide +kernel
theorem dX10_commit_466 : decode cX10_commit 466 = .ok (.iconst 0, 1) := by decide +kernel
theorem dX10_commit_467 : decode cX10_commit 467 = .ok (.bipush 64, 2) := by decide +kernel
theorem dX10_commit_469 : decode cX10_commit 469 = .ok (.invokestatic 164, 3) := by decide +kernel
theorem dX10_commit_472 : decode cX10_commit 472 = .ok (.iconst 0, 1) := by decide +kernel
theorem dX10_commit_473 : decode cX10_commit 473 = .ok (.istore 7, 2) := by decide +kernel
theorem dX10_commit_475 : decode cX10_commit 475 = .ok (.iload 7, 2) := by decide +kernel
theorem dX10_commit_477 : decode cX10_commit 477 = .ok (.aload_n 0, 1) := by decide +kernel
theorem dX10_commit_478 : decode cX10_commit 478 = .ok (.getfield 133, 3) := by decide +kernel
theorem dX10_commit_481 : decode cX10_commit 481 = .ok (.if_icmp .ge 20, 3) := by decide +kernel
theorem dX10_commit_484 : decode cX10_commit 484 = .ok (.aload_n 0, 1) := by decide +kernel
theorem dX10_commit_485 : decode cX10_commit 485 = .ok (.aload_n 0, 1) := by decide +kernel
theorem dX10_commit_486 : decode cX10_commit 486 = .ok (.getfield 56, 3) := by decide +kernel
theorem dX10_commit_489 : decode cX10_commit 489 = .ok (.iload 7, 2) := by decide +kernel
theorem dX10_commit_491 : decode cX10_commit 491 = .ok (.iaload, 1) := by decide +kernel
theorem dX10_commit_492 : decode cX10_commit 492 = .ok (.invokevirtual 130, 3) := by decide +kernel
theorem dX10_commit_495 : decode cX10_commit 495 = .ok (.iinc 7 1, 3) := by decide +kernel
theorem dX10_commit_498 : decode cX10_commit 498 = .ok (.goto (-23), 3) := by decide +kernel
theorem dX10_commit_501 : decode cX10_commit 501 = .ok (.aload_n 0, 1) := by decide +kernel
theorem dX10_commit_502 : decode cX10_commit 502 = .ok (.iconst 0, 1) := by decide +kernel
theorem dX10_commit_503 : decode cX10_commit 503 = .ok (.putfield 133, 3) := by decide +kernel
theorem dX10_commit_506 : decode cX10_commit 506 = .ok (.iload 4, 2) := by decide +kernel
theorem dX10_commit_508 : decode cX10_commit 508 = .ok (.ireturn, 1) := by decide +kernel
set_option maxRecDepth 20000 in
theorem ggX10_isData_X10_in : GoodIn wsX10_isData wsX10_in := goodIn_r _ [4] (by decide +kernel) (by decide +kernel)
set_option maxRecDepth 20000 in
theorem gX10_isData_X10_in : GoodIn wsX10_isData (va_wsS RX10 104 yX10_in wsX10_in) := goodIn_app (goodIn_of _ (by decide +kernel)) ggX10_isData_X10_in
theorem dX10_isData_0 : decode cX10_isData 0 = .ok (.iload_n 0, 1) := by decide +kernel
theorem dX10_isData_1 : decode cX10_isData 1 = .ok (.iconst 2, 1) := by decide +kernel
theorem dX10_isData_2 : decode cX10_isData 2 = .ok (.bipush 31, 2) := by decide +kernel
theorem dX10_isData_4 : decode cX10_isData 4 = .ok (.invokestatic 104, 3) := by decide +kernel
theorem dX10_isData_7 : decode cX10_isData 7 = .ok (.ireturn, 1) := by decide +kernel
set_option maxRecDepth 20000 in
theorem ggX10_isUsable_X10_valid : GoodIn wsX10_isUsable wsX10_valid := goodIn_r _ [6, 7, 8, 9, 5, 10, 11, 12, 13, 14, 15, 22, 23, 24, 25, 26, 27, 28, 29, 30, 31, 32, 33, 34, 35, 36, 37, 38, 39, 40, 41, 42, 43, 44, 45, 46, 47, 48, 49, 50, 51, 52, 53, 54, 55, 56, 57, 58, 59] (by decide +kernel) (by decide +kernel)
set_option maxRecDepth 20000 in
theorem gX10_isUsable_X10_valid : GoodIn wsX10_isUsable (wsV RX10 251 RX10 yX10_valid wsX10_valid) := goodIn_app (goodIn_of _ (by decide +kernel)) ggX10_isUsable_X10_valid
set_option maxRecDepth 20000 in
theorem ggX10_isUsable_X10_at : GoodIn wsX10_isUsable wsX10_at := goodIn_r _ [10, 11, 22, 23, 24, 25, 26, 27, 28, 29, 30, 31, 32, 33, 34, 35, 36, 37, 38, 39, 40, 41, 42, 43, 44, 45, 46, 47, 48, 49, 50, 51, 52, 53, 54, 55, 56, 57, 58, 59] (by decide +kernel) (by decide +kernel)
set_option maxRecDepth 20000 in
theorem gX10_isUsable_X10_at : GoodIn wsX10_isUsable (wsV RX10 108 RX10 yX10_at wsX10_at) := goodIn_app (goodIn_of _ (by decide +kernel)) ggX10_isUsable_X10_at
set_option maxRecDepth 20000 in
theorem ggX10_isUsable_X10_in : GoodIn wsX10_isUsable wsX10_in := goodIn_r _ [18] (by decide +kernel) (by decide +kernel)
set_option maxRecDepth 20000 in
theorem gX10_isUsable_X10_in : GoodIn wsX10_isUsable (va_wsS RX10 104 yX10_in wsX10_in) := goodIn_app (goodIn_of _ (by decide +kernel)) ggX10_isUsable_X10_in
set_option maxRecDepth 20000 in
theorem ggX10_isUsable_X10_isData : GoodIn wsX10_isUsable wsX10_isData := goodIn_r _ [21, 16, 17, 5, 18] (by decide +kernel) (by decide +kernel)
set_option maxRecDepth 20000 in
theorem gX10_isUsable_X10_isData : GoodIn wsX10_isUsable (va_wsS RX10 254 yX10_isData wsX10_isData) := goodIn_app (goodIn_of _ (by decide +kernel)) ggX10_isUsable_X10_isData
theorem dX10_isUsable_0 : decode cX10_isUsable 0 = .ok (.aload_n 0, 1) := by decide +kernel
theorem dX10_isUsable_1 : decode cX10_isUsable 1 = .ok (.iload_n 1, 1) := by decide +kernel
theorem dX10_isUsable_2 : decode cX10_isUsable 2 = .ok (.invokevirtual 251, 3) := by decide +kernel
theorem dX10_isUsable_5 : decode cX10_isUsable 5 = .ok (.ifCond .eq 40, 3) := by decide +kernel
theorem dX10_isUsable_8 : decode cX10_isUsable 8 = .ok (.aload_n 0, 1) := by decide +kernel
theorem dX10_isUsable_9 : decode cX10_isUsable 9 = .ok (.iload_n 1, 1) := by decide +kernel
theorem dX10_isUsable_10 : decode cX10_isUsable 10 = .ok (.iconst 0, 1) := by decide +kernel
theorem dX10_isUsable_11 : decode cX10_isUsable 11 = .ok (.invokevirtual 108, 3) := by decide +kernel
theorem dX10_isUsable_14 : decode cX10_isUsable 14 = .ok (.iconst 1, 1) := by decide +kernel
theorem dX10_isUsable_15 : decode cX10_isUsable 15 = .ok (.if_icmp .ne 30, 3) := by decide +kernel
theorem dX10_isUsable_18 : decode cX10_isUsable 18 = .ok (.aload_n 0, 1) := by decide +kernel
theorem dX10_isUsable_19 : decode cX10_isUsable 19 = .ok (.iload_n 1, 1) := by decide +kernel
theorem dX10_isUsable_20 : decode cX10_isUsable 20 = .ok (.iconst 1, 1) := by decide +kernel
theorem dX10_isUsable_21 : decode cX10_isUsable 21 = .ok (.invokevirtual 108, 3) := by decide +kernel
theorem dX10_isUsable_24 : decode cX10_isUsable 24 = .ok (.iconst 0, 1) := by decide +kernel
theorem dX10_isUsable_25 : decode cX10_isUsable 25 = .ok (.ldc 241, 2) := by decide +kernel
theorem dX10_isUsable_27 : decode cX10_isUsable 27 = .ok (.invokestatic 104, 3) := by decide +kernel
theorem dX10_isUsable_30 : decode cX10_isUsable 30 = .ok (.ifCond .eq 15, 3) := by decide +kernel
theorem dX10_isUsable_33 : decode cX10_isUsable 33 = .ok (.aload_n 0, 1) := by decide +kernel
theorem dX10_isUsable_34 : decode cX10_isUsable 34 = .ok (.iload_n 1, 1) := by decide +kernel
theorem dX10_isUsable_35 : decode cX10_isUsable 35 = .ok (.iconst 2, 1) := by decide +kernel
theorem dX10_isUsable_36 : decode cX10_isUsable 36 = .ok (.invokevirtual 108, 3) := by decide +kernel
theorem dX10_isUsable_39 : decode cX10_isUsable 39 = .ok (.invokestatic 254, 3) := by decide +kernel
theorem dX10_isUsable_42 : decode cX10_isUsable 42 = .ok (.ifCond .ne 5, 3) := by decide +kernel
theorem dX10_isUsable_45 : decode cX10_isUsable 45 = .ok (.iconst 0, 1) := by decide +kernel
theorem dX10_isUsable_46 : decode cX10_isUsable 46 = .ok (.ireturn, 1) := by decide +kernel
theorem dX10_isUsable_47 : decode cX10_isUsable 47 = .ok (.aload_n 0, 1) := by decide +kernel
theorem dX10_isUsable_48 : decode cX10_isUsable 48 = .ok (.iload_n 1, 1) := by decide +kernel
theorem dX10_isUsable_49 : decode cX10_isUsable 49 = .ok (.iconst 2, 1) := by decide +kernel
theorem dX10_isUsable_50 : decode cX10_isUsable 50 = .ok (.invokevirtual 108, 3) := by decide +kernel
theorem dX10_isUsable_53 : decode cX10_isUsable 53 = .ok (.istore_n 2, 1) := by decide +kernel
theorem dX10_isUsable_54 : decode cX10_isUsable 54 = .ok (.aload_n 0, 1) := by decide +kernel
theorem dX10_isUsable_55 : decode cX10_isUsable 55 = .ok (.iload_n 2, 1) := by decide +kernel
theorem dX10_isUsable_56 : decode cX10_isUsable 56 = .ok (.invokevirtual 251, 3) := by decide +kernel
theorem dX10_isUsable_59 : decode cX10_isUsable 59 = .ok (.ifCond .eq 32, 3) := by decide +kernel
theorem dX10_isUsable_62 : decode cX10_isUsable 62 = .ok (.aload_n 0, 1) := by decide +kernel
theorem dX10_isUsable_63 : decode cX10_isUsable 63 = .ok (.iload_n 2, 1) := by decide +kernel
theorem dX10_isUsable_64 : decode cX10_isUsable 64 = .ok (.iconst 0, 1) := by decide +kernel
theorem dX10_isUsable_65 : decode cX10_isUsable 65 = .ok (.invokevirtual 108, 3) := by decide +kernel
theorem dX10_isUsable_68 : decode cX10_isUsable 68 = .ok (.iconst 2, 1) := by decide +kernel
theorem dX10_isUsable_69 : decode cX10_isUsable 69 = .ok (.if_icmp .ne 22, 3) := by decide +kernel
theorem dX10_isUsable_72 : decode cX10_isUsable 72 = .ok (.aload_n 0, 1) := by decide +kernel
theorem dX10_isUsable_73 : decode cX10_isUsable 73 = .ok (.iload_n 2, 1) := by decide +kernel
theorem dX10_isUsable_74 : decode cX10_isUsable 74 = .ok (.iconst 1, 1) := by decide +kernel
theorem dX10_isUsable_75 : decode cX10_isUsable 75 = .ok (.invokevirtual 108, 3) := by decide +kernel
theorem dX10_isUsable_78 : decode cX10_isUsable 78 = .ok (.aload_n 0, 1) := by decide +kernel
theorem dX10_isUsable_79 : decode cX10_isUsable 79 = .ok (.iload_n 1, 1) := by decide +kernel
theorem dX10_isUsable_80 : decode cX10_isUsable 80 = .ok (.iconst 1, 1) := by decide +kernel
theorem dX10_isUsable_81 : decode cX10_isUsable 81 = .ok (.invokevirtual 108, 3) := by decide +kernel
theorem dX10_isUsable_84 : decode cX10_isUsable 84 = .ok (.if_icmp .ne 7, 3) := by decide +kernel
theorem dX10_isUsable_87 : decode cX10_isUsable 87 = .ok (.iconst 1, 1) := by decide +kernel
theorem dX10_isUsable_88 : decode cX10_isUsable 88 = .ok (.goto 4, 3) := by decide +kernel
theorem dX10_isUsable_91 : decode cX10_isUsable 91 = .ok (.iconst 0, 1) := by decide +kernel
theorem dX10_isUsable_92 : decode cX10_isUsable 92 = .ok (.istore_n 3, 1) := by decide +kernel
theorem dX10_isUsable_93 : decode cX10_isUsable 93 = .ok (.iconst 0, 1) := by decide +kernel
theorem dX10_isUsable_94 : decode cX10_isUsable 94 = .ok (.istore 4, 2) := by decide +kernel
theorem dX10_isUsable_96 : decode cX10_isUsable 96 = .ok (.iload 4, 2) := by decide +kernel
theorem dX10_isUsable_98 : decode cX10_isUsable 98 = .ok (.bipush 8, 2) := by decide +kernel
theorem dX10_isUsable_100 : decode cX10_isUsable 100 = .ok (.if_icmp .ge 76, 3) := by decide +kernel
theorem dX10_isUsable_103 : decode cX10_isUsable 103 = .ok (.aload_n 0, 1) := by decide +kernel
theorem dX10_isUsable_104 : decode cX10_isUsable 104 = .ok (.iload_n 2, 1) := by decide +kernel
theorem dX10_isUsable_105 : decode cX10_isUsable 105 = .ok (.iconst 4, 1) := by decide +kernel
theorem dX10_isUsable_106 : decode cX10_isUsable 106 = .ok (.iload 4, 2) := by decide +kernel
theorem dX10_isUsable_108 : decode cX10_isUsable 108 = .ok (.iadd, 1) := by decide +kernel
theorem dX10_isUsable_109 : decode cX10_isUsable 109 = .ok (.invokevirtual 108, 3) := by decide +kernel
theorem dX10_isUsable_112 : decode cX10_isUsable 112 = .ok (.istore 5, 2) := by decide +kernel
theorem dX10_isUsable_114 : decode cX10_isUsable 114 = .ok (.iload_n 3, 1) := by decide +kernel
theorem dX10_isUsable_115 : decode cX10_isUsable 115 = .ok (.ifCond .eq 53, 3) := by decide +kernel
theorem dX10_isUsable_118 : decode cX10_isUsable 118 = .ok (.iload 5, 2) := by decide +kernel
theorem dX10_isUsable_120 : decode cX10_isUsable 120 = .ok (.iconst (-1), 1) := by decide +kernel
theorem dX10_isUsable_121 : decode cX10_isUsable 121 = .ok (.if_icmp .eq 43, 3) := by decide +kernel
