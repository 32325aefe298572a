theorem dX0_init_0 : decode cX0_init 0 = .ok (.aload_n 0, 1) := by decide +kernel
theorem dX0_init_1 : decode cX0_init 1 = .ok (.invokespecial 3, 3) := by decide +kernel
theorem dX0_init_4 : decode cX0_init 4 = .ok (.aload_n 0, 1) := by decide +kernel
theorem dX0_init_5 : decode cX0_init 5 = .ok (.bipush 64, 2) := by decide +kernel
theorem dX0_init_7 : decode cX0_init 7 = .ok (.newarray .int, 2) := by decide +kernel
theorem dX0_init_9 : decode cX0_init 9 = .ok (.putfield 9, 3) := by decide +kernel
theorem dX0_init_12 : decode cX0_init 12 = .ok (.aload_n 0, 1) := by decide +kernel
theorem dX0_init_13 : decode cX0_init 13 = .ok (.lconst 0, 1) := by decide +kernel
theorem dX0_init_14 : decode cX0_init 14 = .ok (.putfield 15, 3) := by decide +kernel
theorem dX0_init_17 : decode cX0_init 17 = .ok (.aload_n 0, 1) := by decide +kernel
theorem dX0_init_18 : decode cX0_init 18 = .ok (.lconst 0, 1) := by decide +kernel
theorem dX0_init_19 : decode cX0_init 19 = .ok (.putfield 19, 3) := by decide +kernel
theorem dX0_init_22 : decode cX0_init 22 = .ok (.return_, 1) := by decide +kernel
theorem dX0_clear_0 : decode cX0_clear 0 = .ok (.aload_n 0, 1) := by decide +kernel
theorem dX0_clear_1 : decode cX0_clear 1 = .ok (.lconst 0, 1) := by decide +kernel
theorem dX0_clear_2 : decode cX0_clear 2 = .ok (.putfield 15, 3) := by decide +kernel
theorem dX0_clear_5 : decode cX0_clear 5 = .ok (.aload_n 0, 1) := by decide +kernel
theorem dX0_clear_6 : decode cX0_clear 6 = .ok (.lconst 0, 1) := by decide +kernel
theorem dX0_clear_7 : decode cX0_clear 7 = .ok (.putfield 19, 3) := by decide +kernel
theorem dX0_clear_10 : decode cX0_clear 10 = .ok (.return_, 1) := by decide +kernel
set_option maxRecDepth 20000 in
theorem ggX0_renew_X9_setOf : GoodIn wsX0_renew wsX9_setOf := goodIn_r _ [7] (by decide +kernel) (by decide +kernel)
set_option maxRecDepth 20000 in
theorem gX0_renew_X9_setOf_n22 : GoodIn wsX0_renew (wsX9_setOf) := ggX0_renew_X9_setOf
theorem dX0_renew_0 : decode cX0_renew 0 = .ok (.aload_n 0, 1) := by decide +kernel
theorem dX0_renew_1 : decode cX0_renew 1 = .ok (.dup, 1) := by decide +kernel
theorem dX0_renew_2 : decode cX0_renew 2 = .ok (.getfield 15, 3) := by decide +kernel
theorem dX0_renew_5 : decode cX0_renew 5 = .ok (.iload_n 1, 1) := by decide +kernel
theorem dX0_renew_6 : decode cX0_renew 6 = .ok (.invokestatic 22, 3) := by decide +kernel
theorem dX0_renew_9 : decode cX0_renew 9 = .ok (.lor, 1) := by decide +kernel
theorem dX0_renew_10 : decode cX0_renew 10 = .ok (.putfield 15, 3) := by decide +kernel
theorem dX0_renew_13 : decode cX0_renew 13 = .ok (.aload_n 0, 1) := by decide +kernel
theorem dX0_renew_14 : decode cX0_renew 14 = .ok (.dup, 1) := by decide +kernel
theorem dX0_renew_15 : decode cX0_renew 15 = .ok (.getfield 19, 3) := by decide +kernel
theorem dX0_renew_18 : decode cX0_renew 18 = .ok (.iload_n 1, 1) := by decide +kernel
theorem dX0_renew_19 : decode cX0_renew 19 = .ok (.invokestatic 22, 3) := by decide +kernel
theorem dX0_renew_22 : decode cX0_renew 22 = .ok (.ldc2_w 26, 3) := by decide +kernel
theorem dX0_renew_25 : decode cX0_renew 25 = .ok (.lxor, 1) := by decide +kernel
theorem dX0_renew_26 : decode cX0_renew 26 = .ok (.land, 1) := by decide +kernel
theorem dX0_renew_27 : decode cX0_renew 27 = .ok (.putfield 19, 3) := by decide +kernel
theorem dX0_renew_30 : decode cX0_renew 30 = .ok (.aload_n 0, 1) := by decide +kernel
theorem dX0_renew_31 : decode cX0_renew 31 = .ok (.getfield 9, 3) := by decide +kernel
theorem dX0_renew_34 : decode cX0_renew 34 = .ok (.iload_n 1, 1) := by decide +kernel
theorem dX0_renew_35 : decode cX0_renew 35 = .ok (.iload_n 2, 1) := by decide +kernel
theorem dX0_renew_36 : decode cX0_renew 36 = .ok (.iastore, 1) := by decide +kernel
theorem dX0_renew_37 : decode cX0_renew 37 = .ok (.return_, 1) := by decide +kernel
set_option maxRecDepth 20000 in
theorem ggX0_drop_X9_setOf : GoodIn wsX0_drop wsX9_setOf := goodIn_r _ [5] (by decide +kernel) (by decide +kernel)
set_option maxRecDepth 20000 in
theorem gX0_drop_X9_setOf_n22 : GoodIn wsX0_drop (wsX9_setOf) := ggX0_drop_X9_setOf
theorem dX0_drop_0 : decode cX0_drop 0 = .ok (.aload_n 0, 1) := by decide +kernel
theorem dX0_drop_1 : decode cX0_drop 1 = .ok (.dup, 1) := by decide +kernel
theorem dX0_drop_2 : decode cX0_drop 2 = .ok (.getfield 15, 3) := by decide +kernel
theorem dX0_drop_5 : decode cX0_drop 5 = .ok (.iload_n 1, 1) := by decide +kernel
theorem dX0_drop_6 : decode cX0_drop 6 = .ok (.invokestatic 22, 3) := by decide +kernel
theorem dX0_drop_9 : decode cX0_drop 9 = .ok (.lor, 1) := by decide +kernel
theorem dX0_drop_10 : decode cX0_drop 10 = .ok (.putfield 15, 3) := by decide +kernel
theorem dX0_drop_13 : decode cX0_drop 13 = .ok (.aload_n 0, 1) := by decide +kernel
theorem dX0_drop_14 : decode cX0_drop 14 = .ok (.dup, 1) := by decide +kernel
theorem dX0_drop_15 : decode cX0_drop 15 = .ok (.getfield 19, 3) := by decide +kernel
theorem dX0_drop_18 : decode cX0_drop 18 = .ok (.iload_n 1, 1) := by decide +kernel
theorem dX0_drop_19 : decode cX0_drop 19 = .ok (.invokestatic 22, 3) := by decide +kernel
theorem dX0_drop_22 : decode cX0_drop 22 = .ok (.lor, 1) := by decide +kernel
theorem dX0_drop_23 : decode cX0_drop 23 = .ok (.putfield 19, 3) := by decide +kernel
theorem dX0_drop_26 : decode cX0_drop 26 = .ok (.return_, 1) := by decide +kernel
theorem dX0_copyFrom_0 : decode cX0_copyFrom 0 = .ok (.aload_n 1, 1) := by decide +kernel
theorem dX0_copyFrom_1 : decode cX0_copyFrom 1 = .ok (.getfield 9, 3) := by decide +kernel
theorem dX0_copyFrom_4 : decode cX0_copyFrom 4 = .ok (.iconst 0, 1) := by decide +kernel
theorem dX0_copyFrom_5 : decode cX0_copyFrom 5 = .ok (.aload_n 0, 1) := by decide +kernel
theorem dX0_copyFrom_6 : decode cX0_copyFrom 6 = .ok (.getfield 9, 3) := by decide +kernel
theorem dX0_copyFrom_9 : decode cX0_copyFrom 9 = .ok (.iconst 0, 1) := by decide +kernel
theorem dX0_copyFrom_10 : decode cX0_copyFrom 10 = .ok (.bipush 64, 2) := by decide +kernel
theorem dX0_copyFrom_12 : decode cX0_copyFrom 12 = .ok (.invokestatic 28, 3) := by decide +kernel
theorem dX0_copyFrom_15 : decode cX0_copyFrom 15 = .ok (.aload_n 0, 1) := by decide +kernel
theorem dX0_copyFrom_16 : decode cX0_copyFrom 16 = .ok (.aload_n 1, 1) := by decide +kernel
theorem dX0_copyFrom_17 : decode cX0_copyFrom 17 = .ok (.getfield 15, 3) := by decide +kernel
theorem dX0_copyFrom_20 : decode cX0_copyFrom 20 = .ok (.putfield 15, 3) := by decide +kernel
theorem dX0_copyFrom_23 : decode cX0_copyFrom 23 = .ok (.aload_n 0, 1) := by decide +kernel
theorem dX0_copyFrom_24 : decode cX0_copyFrom 24 = .ok (.aload_n 1, 1) := by decide +kernel
theorem dX0_copyFrom_25 : decode cX0_copyFrom 25 = .ok (.getfield 19, 3) := by decide +kernel
theorem dX0_copyFrom_28 : decode cX0_copyFrom 28 = .ok (.putfield 19, 3) := by decide +kernel
theorem dX0_copyFrom_31 : decode cX0_copyFrom 31 = .ok (.return_, 1) := by decide +kernel
set_option maxRecDepth 20000 in
theorem ggX0_add_X9_isIn : GoodIn wsX0_add wsX9_isIn := goodIn_r _ [6] (by decide +kernel) (by decide +kernel)
set_option maxRecDepth 20000 in
theorem gX0_add_X9_isIn_n34 : GoodIn wsX0_add (wsX9_isIn) := ggX0_add_X9_isIn
set_option maxRecDepth 20000 in
theorem ggX0_add_X0_drop : GoodIn wsX0_add wsX0_drop := goodIn_r _ [11, 2, 1, 12, 5, 13, 19, 20, 21] (by decide +kernel) (by decide +kernel)
set_option maxRecDepth 20000 in
theorem gX0_add_X0_drop : GoodIn wsX0_add (wsV RX0 38 RX0 yX0_drop wsX0_drop) := goodIn_app (goodIn_of _ (by decide +kernel)) ggX0_add_X0_drop
set_option maxRecDepth 20000 in
theorem ggX0_add_X0_renew : GoodIn wsX0_add wsX0_renew := goodIn_r _ [17, 2, 1, 18, 3, 12, 5, 13, 19, 20, 21] (by decide +kernel) (by decide +kernel)
set_option maxRecDepth 20000 in
theorem gX0_add_X0_renew : GoodIn wsX0_add (wsV RX0 42 RX0 yX0_renew wsX0_renew) := goodIn_app (goodIn_of _ (by decide +kernel)) ggX0_add_X0_renew
theorem dX0_add_0 : decode cX0_add 0 = .ok (.iconst 0, 1) := by decide +kernel
theorem dX0_add_1 : decode cX0_add 1 = .ok (.istore_n 2, 1) := by decide +kernel
theorem dX0_add_2 : decode cX0_add 2 = .ok (.iload_n 2, 1) := by decide +kernel
theorem dX0_add_3 : decode cX0_add 3 = .ok (.bipush 64, 2) := by decide +kernel
theorem dX0_add_5 : decode cX0_add 5 = .ok (.if_icmp .ge 50, 3) := by decide +kernel
theorem dX0_add_8 : decode cX0_add 8 = .ok (.aload_n 1, 1) := by decide +kernel
theorem dX0_add_9 : decode cX0_add 9 = .ok (.getfield 19, 3) := by decide +kernel
theorem dX0_add_12 : decode cX0_add 12 = .ok (.iload_n 2, 1) := by decide +kernel
theorem dX0_add_13 : decode cX0_add 13 = .ok (.invokestatic 34, 3) := by decide +kernel
theorem dX0_add_16 : decode cX0_add 16 = .ok (.ifCond .eq 11, 3) := by decide +kernel
theorem dX0_add_19 : decode cX0_add 19 = .ok (.aload_n 0, 1) := by decide +kernel
theorem dX0_add_20 : decode cX0_add 20 = .ok (.iload_n 2, 1) := by decide +kernel
theorem dX0_add_21 : decode cX0_add 21 = .ok (.invokevirtual 38, 3) := by decide +kernel
theorem dX0_add_24 : decode cX0_add 24 = .ok (.goto 25, 3) := by decide +kernel
theorem dX0_add_27 : decode cX0_add 27 = .ok (.aload_n 1, 1) := by decide +kernel
theorem dX0_add_28 : decode cX0_add 28 = .ok (.getfield 15, 3) := by decide +kernel
theorem dX0_add_31 : decode cX0_add 31 = .ok (.iload_n 2, 1) := by decide +kernel
theorem dX0_add_32 : decode cX0_add 32 = .ok (.invokestatic 34, 3) := by decide +kernel
theorem dX0_add_35 : decode cX0_add 35 = .ok (.ifCond .eq 14, 3) := by decide +kernel
theorem dX0_add_38 : decode cX0_add 38 = .ok (.aload_n 0, 1) := by decide +kernel
theorem dX0_add_39 : decode cX0_add 39 = .ok (.iload_n 2, 1) := by decide +kernel
theorem dX0_add_40 : decode cX0_add 40 = .ok (.aload_n 1, 1) := by decide +kernel
theorem dX0_add_41 : decode cX0_add 41 = .ok (.getfield 9, 3) := by decide +kernel
theorem dX0_add_44 : decode cX0_add 44 = .ok (.iload_n 2, 1) := by decide +kernel
theorem dX0_add_45 : decode cX0_add 45 = .ok (.iaload, 1) := by decide +kernel
theorem dX0_add_46 : decode cX0_add 46 = .ok (.invokevirtual 42, 3) := by decide +kernel
theorem dX0_add_49 : decode cX0_add 49 = .ok (.iinc 2 1, 3) := by decide +kernel
theorem dX0_add_52 : decode cX0_add 52 = .ok (.goto (-50), 3) := by decide +kernel
theorem dX0_add_55 : decode cX0_add 55 = .ok (.return_, 1) := by decide +kernel
set_option maxRecDepth 20000 in
theorem ggX0_count_J13_bitCount_95d88 : GoodIn wsX0_count wsJ13_bitCount_95d88 := goodIn_r _ [5, 6, 7, 8] (by decide +kernel) (by decide +kernel)
set_option maxRecDepth 20000 in
theorem gX0_count_J13_bitCount_95d88 : GoodIn wsX0_count (va_wsS RX0 46 yJ13_bitCount_95d88 wsJ13_bitCount_95d88) := goodIn_app (goodIn_of _ (by decide +kernel)) ggX0_count_J13_bitCount_95d88
theorem dX0_count_0 : decode cX0_count 0 = .ok (.aload_n 0, 1) := by decide +kernel
theorem dX0_count_1 : decode cX0_count 1 = .ok (.getfield 15, 3) := by decide +kernel
theorem dX0_count_4 : decode cX0_count 4 = .ok (.invokestatic 46, 3) := by decide +kernel
theorem dX0_count_7 : decode cX0_count 7 = .ok (.ireturn, 1) := by decide +kernel
set_option maxRecDepth 20000 in
theorem ggX0_touchesPage_X8_keyOf : GoodIn wsX0_touchesPage wsX8_keyOf := goodIn_r _ [5] (by decide +kernel) (by decide +kernel)
set_option maxRecDepth 20000 in
theorem gX0_touchesPage_X8_keyOf : GoodIn wsX0_touchesPage (va_wsS RX0 52 yX8_keyOf wsX8_keyOf) := goodIn_app (goodIn_of _ (by decide +kernel)) ggX0_touchesPage_X8_keyOf
set_option maxRecDepth 20000 in
theorem ggX0_touchesPage_X9_isIn : GoodIn wsX0_touchesPage wsX9_isIn := goodIn_r _ [8] (by decide +kernel) (by decide +kernel)
set_option maxRecDepth 20000 in
theorem gX0_touchesPage_X9_isIn_n34 : GoodIn wsX0_touchesPage (wsX9_isIn) := ggX0_touchesPage_X9_isIn
theorem dX0_touchesPage_0 : decode cX0_touchesPage 0 = .ok (.iconst 0, 1) := by decide +kernel
theorem dX0_touchesPage_1 : decode cX0_touchesPage 1 = .ok (.istore_n 2, 1) := by decide +kernel
theorem dX0_touchesPage_2 : decode cX0_touchesPage 2 = .ok (.iload_n 2, 1) := by decide +kernel
theorem dX0_touchesPage_3 : decode cX0_touchesPage 3 = .ok (.bipush 8, 2) := by decide +kernel
theorem dX0_touchesPage_5 : decode cX0_touchesPage 5 = .ok (.if_icmp .ge 26, 3) := by decide +kernel
theorem dX0_touchesPage_8 : decode cX0_touchesPage 8 = .ok (.aload_n 0, 1) := by decide +kernel
theorem dX0_touchesPage_9 : decode cX0_touchesPage 9 = .ok (.getfield 15, 3) := by decide +kernel
theorem dX0_touchesPage_12 : decode cX0_touchesPage 12 = .ok (.iload_n 1, 1) := by decide +kernel
theorem dX0_touchesPage_13 : decode cX0_touchesPage 13 = .ok (.iload_n 2, 1) := by decide +kernel
theorem dX0_touchesPage_14 : decode cX0_touchesPage 14 = .ok (.invokestatic 52, 3) := by decide +kernel
theorem dX0_touchesPage_17 : decode cX0_touchesPage 17 = .ok (.invokestatic 34, 3) := by decide +kernel
theorem dX0_touchesPage_20 : decode cX0_touchesPage 20 = .ok (.ifCond .eq 5, 3) := by decide +kernel
theorem dX0_touchesPage_23 : decode cX0_touchesPage 23 = .ok (.iconst 1, 1) := by decide +kernel
theorem dX0_touchesPage_24 : decode cX0_touchesPage 24 = .ok (.ireturn, 1) := by decide +kernel
theorem dX0_touchesPage_25 : decode cX0_touchesPage 25 = .ok (.iinc 2 1, 3) := by decide +kernel
theorem dX0_touchesPage_28 : decode cX0_touchesPage 28 = .ok (.goto (-26), 3) := by decide +kernel
theorem dX0_touchesPage_31 : decode cX0_touchesPage 31 = .ok (.iconst 0, 1) := by decide +kernel
theorem dX0_touchesPage_32 : decode cX0_touchesPage 32 = .ok (.ireturn, 1) := by decide +kernel
set_option maxRecDepth 20000 in
theorem ggX0_countPages_X0_touchesPage : GoodIn wsX0_countPages wsX0_touchesPage := goodIn_r _ [5, 6, 7, 8, 9, 10, 11, 12, 13, 14, 15, 16] (by decide +kernel) (by decide +kernel)
set_option maxRecDepth 20000 in
theorem gX0_countPages_X0_touchesPage : GoodIn wsX0_countPages (wsV RX0 58 RX0 yX0_touchesPage wsX0_touchesPage) := goodIn_app (goodIn_of _ (by decide +kernel)) ggX0_countPages_X0_touchesPage
theorem dX0_countPages_0 : decode cX0_countPages 0 = .ok (.iconst 0, 1) := by decide +kernel
theorem dX0_countPages_1 : decode cX0_countPages 1 = .ok (.istore_n 1, 1) := by decide +kernel
theorem dX0_countPages_2 : decode cX0_countPages 2 = .ok (.iconst 0, 1) := by decide +kernel
theorem dX0_countPages_3 : decode cX0_countPages 3 = .ok (.istore_n 2, 1) := by decide +kernel
theorem dX0_countPages_4 : decode cX0_countPages 4 = .ok (.iload_n 2, 1) := by decide +kernel
theorem dX0_countPages_5 : decode cX0_countPages 5 = .ok (.bipush 8, 2) := by decide +kernel
theorem dX0_countPages_7 : decode cX0_countPages 7 = .ok (.if_icmp .ge 20, 3) := by decide +kernel
theorem dX0_countPages_10 : decode cX0_countPages 10 = .ok (.aload_n 0, 1) := by decide +kernel
theorem dX0_countPages_11 : decode cX0_countPages 11 = .ok (.iload_n 2, 1) := by decide +kernel
theorem dX0_countPages_12 : decode cX0_countPages 12 = .ok (.invokevirtual 58, 3) := by decide +kernel
theorem dX0_countPages_15 : decode cX0_countPages 15 = .ok (.ifCond .eq 6, 3) := by decide +kernel
theorem dX0_countPages_18 : decode cX0_countPages 18 = .ok (.iinc 1 1, 3) := by decide +kernel
theorem dX0_countPages_21 : decode cX0_countPages 21 = .ok (.iinc 2 1, 3) := by decide +kernel
theorem dX0_countPages_24 : decode cX0_countPages 24 = .ok (.goto (-20), 3) := by decide +kernel
theorem dX0_countPages_27 : decode cX0_countPages 27 = .ok (.iload_n 1, 1) := by decide +kernel
theorem dX0_countPages_28 : decode cX0_countPages 28 = .ok (.ireturn, 1) := by decide +kernel
theorem dX1_init_0 : decode cX1_init 0 = .ok (.aload_n 0, 1) := by decide +kernel
theorem dX1_init_1 : decode cX1_init 1 = .ok (.invokespecial 3, 3) := by decide +kernel
theorem dX1_init_4 : decode cX1_init 4 = .ok (.aload_n 0, 1) := by decide +kernel
theorem dX1_init_5 : decode cX1_init 5 = .ok (.bipush 32, 2) := by decide +kernel
theorem dX1_init_7 : decode cX1_init 7 = .ok (.bipush 13, 2) := by decide +kernel
theorem dX1_init_9 : decode cX1_init 9 = .ok (.multianewarray 9 2, 4) := by decide +kernel
theorem dX1_init_13 : decode cX1_init 13 = .ok (.putfield 11, 3) := by decide +kernel
theorem dX1_init_16 : decode cX1_init 16 = .ok (.aload_n 0, 1) := by decide +kernel
theorem dX1_init_17 : decode cX1_init 17 = .ok (.bipush 13, 2) := by decide +kernel
theorem dX1_init_19 : decode cX1_init 19 = .ok (.newarray .int, 2) := by decide +kernel
theorem dX1_init_21 : decode cX1_init 21 = .ok (.putfield 16, 3) := by decide +kernel
theorem dX1_init_24 : decode cX1_init 24 = .ok (.return_, 1) := by decide +kernel
set_option maxRecDepth 20000 in
theorem ggX1_wipe_J7_fill_53178 : GoodIn wsX1_wipe wsJ7_fill_53178 := goodIn_r _ [5] (by decide +kernel) (by decide +kernel)
set_option maxRecDepth 20000 in
theorem gX1_wipe_J7_fill_53178 : GoodIn wsX1_wipe (va_wsS RX1 20 yJ7_fill_53178 wsJ7_fill_53178) := goodIn_app (goodIn_of _ (by decide +kernel)) ggX1_wipe_J7_fill_53178
theorem dX1_wipe_0 : decode cX1_wipe 0 = .ok (.iconst 0, 1) := by decide +kernel
theorem dX1_wipe_1 : decode cX1_wipe 1 = .ok (.istore_n 1, 1) := by decide +kernel
theorem dX1_wipe_2 : decode cX1_wipe 2 = .ok (.iload_n 1, 1) := by decide +kernel
theorem dX1_wipe_3 : decode cX1_wipe 3 = .ok (.bipush 32, 2) := by decide +kernel
theorem dX1_wipe_5 : decode cX1_wipe 5 = .ok (.if_icmp .ge 19, 3) := by decide +kernel
theorem dX1_wipe_8 : decode cX1_wipe 8 = .ok (.aload_n 0, 1) := by decide +kernel
theorem dX1_wipe_9 : decode cX1_wipe 9 = .ok (.getfield 11, 3) := by decide +kernel
theorem dX1_wipe_12 : decode cX1_wipe 12 = .ok (.iload_n 1, 1) := by decide +kernel
theorem dX1_wipe_13 : decode cX1_wipe 13 = .ok (.aaload, 1) := by decide +kernel
theorem dX1_wipe_14 : decode cX1_wipe 14 = .ok (.iconst 0, 1) := by decide +kernel
theorem dX1_wipe_15 : decode cX1_wipe 15 = .ok (.invokestatic 20, 3) := by decide +kernel
theorem dX1_wipe_18 : decode cX1_wipe 18 = .ok (.iinc 1 1, 3) := by decide +kernel
theorem dX1_wipe_21 : decode cX1_wipe 21 = .ok (.goto (-19), 3) := by decide +kernel
theorem dX1_wipe_24 : decode cX1_wipe 24 = .ok (.return_, 1) := by decide +kernel
set_option maxRecDepth 20000 in
theorem ggX1_writeWhole_X1_computeChecksum : GoodIn wsX1_writeWhole wsX1_computeChecksum := goodIn_r _ [11, 2, 12, 13] (by decide +kernel) (by decide +kernel)
set_option maxRecDepth 20000 in
theorem gX1_writeWhole_X1_computeChecksum : GoodIn wsX1_writeWhole (wsV RX1 32 RX1 yX1_computeChecksum wsX1_computeChecksum) := goodIn_app (goodIn_of _ (by decide +kernel)) ggX1_writeWhole_X1_computeChecksum
theorem dX1_writeWhole_0 : decode cX1_writeWhole 0 = .ok (.aload_n 0, 1) := by decide +kernel
theorem dX1_writeWhole_1 : decode cX1_writeWhole 1 = .ok (.getfield 16, 3) := by decide +kernel
theorem dX1_writeWhole_4 : decode cX1_writeWhole 4 = .ok (.iconst 0, 1) := by decide +kernel
theorem dX1_writeWhole_5 : decode cX1_writeWhole 5 = .ok (.aload_n 0, 1) := by decide +kernel
theorem dX1_writeWhole_6 : decode cX1_writeWhole 6 = .ok (.getfield 11, 3) := by decide +kernel
theorem dX1_writeWhole_9 : decode cX1_writeWhole 9 = .ok (.iload_n 1, 1) := by decide +kernel
theorem dX1_writeWhole_10 : decode cX1_writeWhole 10 = .ok (.aaload, 1) := by decide +kernel
theorem dX1_writeWhole_11 : decode cX1_writeWhole 11 = .ok (.iconst 0, 1) := by decide +kernel
theorem dX1_writeWhole_12 : decode cX1_writeWhole 12 = .ok (.bipush 12, 2) := by decide +kernel
theorem dX1_writeWhole_14 : decode cX1_writeWhole 14 = .ok (.invokestatic 26, 3) := by decide +kernel
theorem dX1_writeWhole_17 : decode cX1_writeWhole 17 = .ok (.aload_n 0, 1) := by decide +kernel
theorem dX1_writeWhole_18 : decode cX1_writeWhole 18 = .ok (.getfield 11, 3) := by decide +kernel
theorem dX1_writeWhole_21 : decode cX1_writeWhole 21 = .ok (.iload_n 1, 1) := by decide +kernel
theorem dX1_writeWhole_22 : decode cX1_writeWhole 22 = .ok (.aaload, 1) := by decide +kernel
theorem dX1_writeWhole_23 : decode cX1_writeWhole 23 = .ok (.bipush 12, 2) := by decide +kernel
theorem dX1_writeWhole_25 : decode cX1_writeWhole 25 = .ok (.aload_n 0, 1) := by decide +kernel
theorem dX1_writeWhole_26 : decode cX1_writeWhole 26 = .ok (.iload_n 1, 1) := by decide +kernel
theorem dX1_writeWhole_27 : decode cX1_writeWhole 27 = .ok (.invokevirtual 32, 3) := by decide +kernel
theorem dX1_writeWhole_30 : decode cX1_writeWhole 30 = .ok (.iastore, 1) := by decide +kernel
theorem dX1_writeWhole_31 : decode cX1_writeWhole 31 = .ok (.return_, 1) := by decide +kernel
theorem dX1_writePart_0 : decode cX1_writePart 0 = .ok (.aload_n 0, 1) := by decide +kernel
theorem dX1_writePart_1 : decode cX1_writePart 1 = .ok (.getfield 16, 3) := by decide +kernel
theorem dX1_writePart_4 : decode cX1_writePart 4 = .ok (.iconst 0, 1) := by decide +kernel
theorem dX1_writePart_5 : decode cX1_writePart 5 = .ok (.aload_n 0, 1) := by decide +kernel
theorem dX1_writePart_6 : decode cX1_writePart 6 = .ok (.getfield 11, 3) := by decide +kernel
theorem dX1_writePart_9 : decode cX1_writePart 9 = .ok (.iload_n 1, 1) := by decide +kernel
theorem dX1_writePart_10 : decode cX1_writePart 10 = .ok (.aaload, 1) := by decide +kernel
theorem dX1_writePart_11 : decode cX1_writePart 11 = .ok (.iconst 0, 1) := by decide +kernel
theorem dX1_writePart_12 : decode cX1_writePart 12 = .ok (.bipush 6, 2) := by decide +kernel
theorem dX1_writePart_14 : decode cX1_writePart 14 = .ok (.invokestatic 26, 3) := by decide +kernel
theorem dX1_writePart_17 : decode cX1_writePart 17 = .ok (.return_, 1) := by decide +kernel
theorem dX1_computeChecksum_0 : decode cX1_computeChecksum 0 = .ok (.iload_n 1, 1) := by decide +kernel
theorem dX1_computeChecksum_1 : decode cX1_computeChecksum 1 = .ok (.bipush 17, 2) := by decide +kernel
theorem dX1_computeChecksum_3 : decode cX1_computeChecksum 3 = .ok (.iadd, 1) := by decide +kernel
theorem dX1_computeChecksum_4 : decode cX1_computeChecksum 4 = .ok (.istore_n 2, 1) := by decide +kernel
theorem dX1_computeChecksum_5 : decode cX1_computeChecksum 5 = .ok (.iconst 0, 1) := by decide +kernel
theorem dX1_computeChecksum_6 : decode cX1_computeChecksum 6 = .ok (.istore_n 3, 1) := by decide +kernel
theorem dX1_computeChecksum_7 : decode cX1_computeChecksum 7 = .ok (.iload_n 3, 1) := by decide +kernel
theorem dX1_computeChecksum_8 : decode cX1_computeChecksum 8 = .ok (.bipush 12, 2) := by decide +kernel
theorem dX1_computeChecksum_10 : decode cX1_computeChecksum 10 = .ok (.if_icmp .ge 23, 3) := by decide +kernel
theorem dX1_computeChecksum_13 : decode cX1_computeChecksum 13 = .ok (.bipush 31, 2) := by decide +kernel
theorem dX1_computeChecksum_15 : decode cX1_computeChecksum 15 = .ok (.iload_n 2, 1) := by decide +kernel
theorem dX1_computeChecksum_16 : decode cX1_computeChecksum 16 = .ok (.imul, 1) := by decide +kernel
theorem dX1_computeChecksum_17 : decode cX1_computeChecksum 17 = .ok (.aload_n 0, 1) := by decide +kernel
theorem dX1_computeChecksum_18 : decode cX1_computeChecksum 18 = .ok (.getfield 11, 3) := by decide +kernel
theorem dX1_computeChecksum_21 : decode cX1_computeChecksum 21 = .ok (.iload_n 1, 1) := by decide +kernel
theorem dX1_computeChecksum_22 : decode cX1_computeChecksum 22 = .ok (.aaload, 1) := by decide +kernel
theorem dX1_computeChecksum_23 : decode cX1_computeChecksum 23 = .ok (.iload_n 3, 1) := by decide +kernel
theorem dX1_computeChecksum_24 : decode cX1_computeChecksum 24 = .ok (.iaload, 1) := by decide +kernel
theorem dX1_computeChecksum_25 : decode cX1_computeChecksum 25 = .ok (.iadd, 1) := by decide +kernel
theorem dX1_computeChecksum_26 : decode cX1_computeChecksum 26 = .ok (.istore_n 2, 1) := by decide +kernel
theorem dX1_computeChecksum_27 : decode cX1_computeChecksum 27 = .ok (.iinc 3 1, 3) := by decide +kernel
theorem dX1_computeChecksum_30 : decode cX1_computeChecksum 30 = .ok (.goto (-23), 3) := by decide +kernel
theorem dX1_computeChecksum_33 : decode cX1_computeChecksum 33 = .ok (.iload_n 2, 1) := by decide +kernel
theorem dX1_computeChecksum_34 : decode cX1_computeChecksum 34 = .ok (.ireturn, 1) := by decide +kernel
set_option maxRecDepth 20000 in
theorem ggX1_hasRightChecksum_X1_computeChecksum : GoodIn wsX1_hasRightChecksum wsX1_computeChecksum := goodIn_r _ [6, 1, 7, 8] (by decide +kernel) (by decide +kernel)
set_option maxRecDepth 20000 in
theorem gX1_hasRightChecksum_X1_computeChecksum : GoodIn wsX1_hasRightChecksum (wsV RX1 32 RX1 yX1_computeChecksum wsX1_computeChecksum) := goodIn_app (goodIn_of _ (by decide +kernel)) ggX1_hasRightChecksum_X1_computeChecksum
theorem dX1_hasRightChecksum_0 : decode cX1_hasRightChecksum 0 = .ok (.aload_n 0, 1) := by decide +kernel
theorem dX1_hasRightChecksum_1 : decode cX1_hasRightChecksum 1 = .ok (.getfield 11, 3) := by decide +kernel
theorem dX1_hasRightChecksum_4 : decode cX1_hasRightChecksum 4 = .ok (.iload_n 1, 1) := by decide +kernel
theorem dX1_hasRightChecksum_5 : decode cX1_hasRightChecksum 5 = .ok (.aaload, 1) := by decide +kernel
theorem dX1_hasRightChecksum_6 : decode cX1_hasRightChecksum 6 = .ok (.bipush 12, 2) := by decide +kernel
theorem dX1_hasRightChecksum_8 : decode cX1_hasRightChecksum 8 = .ok (.iaload, 1) := by decide +kernel
theorem dX1_hasRightChecksum_9 : decode cX1_hasRightChecksum 9 = .ok (.aload_n 0, 1) := by decide +kernel
theorem dX1_hasRightChecksum_10 : decode cX1_hasRightChecksum 10 = .ok (.iload_n 1, 1) := by decide +kernel
theorem dX1_hasRightChecksum_11 : decode cX1_hasRightChecksum 11 = .ok (.invokevirtual 32, 3) := by decide +kernel
theorem dX1_hasRightChecksum_14 : decode cX1_hasRightChecksum 14 = .ok (.if_icmp .ne 7, 3) := by decide +kernel
theorem dX1_hasRightChecksum_17 : decode cX1_hasRightChecksum 17 = .ok (.iconst 1, 1) := by decide +kernel
theorem dX1_hasRightChecksum_18 : decode cX1_hasRightChecksum 18 = .ok (.goto 4, 3) := by decide +kernel
theorem dX1_hasRightChecksum_21 : decode cX1_hasRightChecksum 21 = .ok (.iconst 0, 1) := by decide +kernel
theorem dX1_hasRightChecksum_22 : decode cX1_hasRightChecksum 22 = .ok (.ireturn, 1) := by decide +kernel
set_option maxRecDepth 20000 in
theorem ggX1_isValidForm_X1_hasRightChecksum : GoodIn wsX1_isValidForm wsX1_hasRightChecksum := goodIn_r _ [6, 1, 7, 8, 9, 5, 10, 11, 12] (by decide +kernel) (by decide +kernel)
set_option maxRecDepth 20000 in
theorem gX1_isValidForm_X1_hasRightChecksum : GoodIn wsX1_isValidForm (wsV RX1 36 RX1 yX1_hasRightChecksum wsX1_hasRightChecksum) := goodIn_app (goodIn_of _ (by decide +kernel)) ggX1_isValidForm_X1_hasRightChecksum
theorem dX1_isValidForm_0 : decode cX1_isValidForm 0 = .ok (.aload_n 0, 1) := by decide +kernel
theorem dX1_isValidForm_1 : decode cX1_isValidForm 1 = .ok (.iload_n 1, 1) := by decide +kernel
theorem dX1_isValidForm_2 : decode cX1_isValidForm 2 = .ok (.invokevirtual 36, 3) := by decide +kernel
theorem dX1_isValidForm_5 : decode cX1_isValidForm 5 = .ok (.ifCond .eq 19, 3) := by decide +kernel
theorem dX1_isValidForm_8 : decode cX1_isValidForm 8 = .ok (.aload_n 0, 1) := by decide +kernel
theorem dX1_isValidForm_9 : decode cX1_isValidForm 9 = .ok (.getfield 11, 3) := by decide +kernel
theorem dX1_isValidForm_12 : decode cX1_isValidForm 12 = .ok (.iload_n 1, 1) := by decide +kernel
theorem dX1_isValidForm_13 : decode cX1_isValidForm 13 = .ok (.aaload, 1) := by decide +kernel
theorem dX1_isValidForm_14 : decode cX1_isValidForm 14 = .ok (.iconst 0, 1) := by decide +kernel
theorem dX1_isValidForm_15 : decode cX1_isValidForm 15 = .ok (.iaload, 1) := by decide +kernel
theorem dX1_isValidForm_16 : decode cX1_isValidForm 16 = .ok (.iload_n 2, 1) := by decide +kernel
theorem dX1_isValidForm_17 : decode cX1_isValidForm 17 = .ok (.if_icmp .ne 7, 3) := by decide +kernel
theorem dX1_isValidForm_20 : decode cX1_isValidForm 20 = .ok (.iconst 1, 1) := by decide +kernel
theorem dX1_isValidForm_21 : decode cX1_isValidForm 21 = .ok (.goto 4, 3) := by decide +kernel
theorem dX1_isValidForm_24 : decode cX1_isValidForm 24 = .ok (.iconst 0, 1) := by decide +kernel
theorem dX1_isValidForm_25 : decode cX1_isValidForm 25 = .ok (.ireturn, 1) := by decide +kernel
set_option maxRecDepth 20000 in
theorem ggX1_isUsableRoot_X1_isValidForm : GoodIn wsX1_isUsableRoot wsX1_isValidForm := goodIn_r _ [7, 1, 8, 9, 10, 6, 11, 12, 13, 14, 15, 27, 28] (by decide +kernel) (by decide +kernel)
set_option maxRecDepth 20000 in
theorem gX1_isUsableRoot_X1_isValidForm : GoodIn wsX1_isUsableRoot (wsV RX1 40 RX1 yX1_isValidForm wsX1_isValidForm) := goodIn_app (goodIn_of _ (by decide +kernel)) ggX1_isUsableRoot_X1_isValidForm
set_option maxRecDepth 20000 in
theorem ggX1_isUsableRoot_X1_isUsableTable : GoodIn wsX1_isUsableRoot wsX1_isUsableTable := goodIn_r _ [19, 1, 20, 21, 6, 22, 3, 4, 5, 7, 8, 9, 10, 11, 12, 13, 14, 15, 23, 24, 25, 26, 27, 28] (by decide +kernel) (by decide +kernel)
set_option maxRecDepth 20000 in
theorem gX1_isUsableRoot_X1_isUsableTable : GoodIn wsX1_isUsableRoot (wsV RX1 45 RX1 yX1_isUsableTable wsX1_isUsableTable) := goodIn_app (goodIn_of _ (by decide +kernel)) ggX1_isUsableRoot_X1_isUsableTable
theorem dX1_isUsableRoot_0 : decode cX1_isUsableRoot 0 = .ok (.aload_n 0, 1) := by decide +kernel
theorem dX1_isUsableRoot_1 : decode cX1_isUsableRoot 1 = .ok (.getfield 11, 3) := by decide +kernel
theorem dX1_isUsableRoot_4 : decode cX1_isUsableRoot 4 = .ok (.iload_n 1, 1) := by decide +kernel
theorem dX1_isUsableRoot_5 : decode cX1_isUsableRoot 5 = .ok (.aaload, 1) := by decide +kernel
theorem dX1_isUsableRoot_6 : decode cX1_isUsableRoot 6 = .ok (.iconst 1, 1) := by decide +kernel
theorem dX1_isUsableRoot_7 : decode cX1_isUsableRoot 7 = .ok (.iaload, 1) := by decide +kernel
theorem dX1_isUsableRoot_8 : decode cX1_isUsableRoot 8 = .ok (.istore_n 2, 1) := by decide +kernel
theorem dX1_isUsableRoot_9 : decode cX1_isUsableRoot 9 = .ok (.aload_n 0, 1) := by decide +kernel
theorem dX1_isUsableRoot_10 : decode cX1_isUsableRoot 10 = .ok (.iload_n 1, 1) := by decide +kernel
theorem dX1_isUsableRoot_11 : decode cX1_isUsableRoot 11 = .ok (.iconst 1, 1) := by decide +kernel
theorem dX1_isUsableRoot_12 : decode cX1_isUsableRoot 12 = .ok (.invokevirtual 40, 3) := by decide +kernel
theorem dX1_isUsableRoot_15 : decode cX1_isUsableRoot 15 = .ok (.ifCond .eq 33, 3) := by decide +kernel
theorem dX1_isUsableRoot_18 : decode cX1_isUsableRoot 18 = .ok (.iload_n 2, 1) := by decide +kernel
theorem dX1_isUsableRoot_19 : decode cX1_isUsableRoot 19 = .ok (.ifCond .lt 29, 3) := by decide +kernel
theorem dX1_isUsableRoot_22 : decode cX1_isUsableRoot 22 = .ok (.iload_n 2, 1) := by decide +kernel
theorem dX1_isUsableRoot_23 : decode cX1_isUsableRoot 23 = .ok (.ldc 44, 2) := by decide +kernel
theorem dX1_isUsableRoot_25 : decode cX1_isUsableRoot 25 = .ok (.if_icmp .gt 23, 3) := by decide +kernel
theorem dX1_isUsableRoot_28 : decode cX1_isUsableRoot 28 = .ok (.aload_n 0, 1) := by decide +kernel
theorem dX1_isUsableRoot_29 : decode cX1_isUsableRoot 29 = .ok (.aload_n 0, 1) := by decide +kernel
theorem dX1_isUsableRoot_30 : decode cX1_isUsableRoot 30 = .ok (.getfield 11, 3) := by decide +kernel
theorem dX1_isUsableRoot_33 : decode cX1_isUsableRoot 33 = .ok (.iload_n 1, 1) := by decide +kernel
theorem dX1_isUsableRoot_34 : decode cX1_isUsableRoot 34 = .ok (.aaload, 1) := by decide +kernel
theorem dX1_isUsableRoot_35 : decode cX1_isUsableRoot 35 = .ok (.iconst 2, 1) := by decide +kernel
theorem dX1_isUsableRoot_36 : decode cX1_isUsableRoot 36 = .ok (.iaload, 1) := by decide +kernel
theorem dX1_isUsableRoot_37 : decode cX1_isUsableRoot 37 = .ok (.iload_n 2, 1) := by decide +kernel
theorem dX1_isUsableRoot_38 : decode cX1_isUsableRoot 38 = .ok (.invokevirtual 45, 3) := by decide +kernel
theorem dX1_isUsableRoot_41 : decode cX1_isUsableRoot 41 = .ok (.ifCond .eq 7, 3) := by decide +kernel
theorem dX1_isUsableRoot_44 : decode cX1_isUsableRoot 44 = .ok (.iconst 1, 1) := by decide +kernel
theorem dX1_isUsableRoot_45 : decode cX1_isUsableRoot 45 = .ok (.goto 4, 3) := by decide +kernel
theorem dX1_isUsableRoot_48 : decode cX1_isUsableRoot 48 = .ok (.iconst 0, 1) := by decide +kernel
theorem dX1_isUsableRoot_49 : decode cX1_isUsableRoot 49 = .ok (.ireturn, 1) := by decide +kernel
set_option maxRecDepth 20000 in
theorem ggX1_isUsableTable_X1_isDataBlock : GoodIn wsX1_isUsableTable wsX1_isDataBlock := goodIn_r _ [5] (by decide +kernel) (by decide +kernel)
set_option maxRecDepth 20000 in
theorem gX1_isUsableTable_X1_isDataBlock : GoodIn wsX1_isUsableTable (va_wsS RX1 48 yX1_isDataBlock wsX1_isDataBlock) := goodIn_app (goodIn_of _ (by decide +kernel)) ggX1_isUsableTable_X1_isDataBlock
set_option maxRecDepth 20000 in
theorem ggX1_isUsableTable_X1_isValidForm : GoodIn wsX1_isUsableTable wsX1_isValidForm := goodIn_r _ [9, 1, 10, 11, 12, 4, 13, 14, 15, 16, 17, 22, 23] (by decide +kernel) (by decide +kernel)
set_option maxRecDepth 20000 in
theorem gX1_isUsableTable_X1_isValidForm : GoodIn wsX1_isUsableTable (wsV RX1 40 RX1 yX1_isValidForm wsX1_isValidForm) := goodIn_app (goodIn_of _ (by decide +kernel)) ggX1_isUsableTable_X1_isValidForm
set_option maxRecDepth 20000 in
theorem ggX1_isUsableTable_X1_isUsablePage : GoodIn wsX1_isUsableTable wsX1_isUsablePage := goodIn_r _ [21, 1, 2, 3, 4, 5, 6, 7, 8, 9, 10, 11, 12, 13, 14, 15, 16, 17, 22, 23] (by decide +kernel) (by decide +kernel)
set_option maxRecDepth 20000 in
theorem gX1_isUsableTable_X1_isUsablePage : GoodIn wsX1_isUsableTable (wsV RX1 51 RX1 yX1_isUsablePage wsX1_isUsablePage) := goodIn_app (goodIn_of _ (by decide +kernel)) ggX1_isUsableTable_X1_isUsablePage
theorem dX1_isUsableTable_0 : decode cX1_isUsableTable 0 = .ok (.iload_n 1, 1) := by decide +kernel
theorem dX1_isUsableTable_1 : decode cX1_isUsableTable 1 = .ok (.invokestatic 48, 3) := by decide +kernel
theorem dX1_isUsableTable_4 : decode cX1_isUsableTable 4 = .ok (.ifCond .eq 24, 3) := by decide +kernel
theorem dX1_isUsableTable_7 : decode cX1_isUsableTable 7 = .ok (.aload_n 0, 1) := by decide +kernel
theorem dX1_isUsableTable_8 : decode cX1_isUsableTable 8 = .ok (.iload_n 1, 1) := by decide +kernel
theorem dX1_isUsableTable_9 : decode cX1_isUsableTable 9 = .ok (.iconst 2, 1) := by decide +kernel
theorem dX1_isUsableTable_10 : decode cX1_isUsableTable 10 = .ok (.invokevirtual 40, 3) := by decide +kernel
theorem dX1_isUsableTable_13 : decode cX1_isUsableTable 13 = .ok (.ifCond .eq 15, 3) := by decide +kernel
theorem dX1_isUsableTable_16 : decode cX1_isUsableTable 16 = .ok (.aload_n 0, 1) := by decide +kernel
theorem dX1_isUsableTable_17 : decode cX1_isUsableTable 17 = .ok (.getfield 11, 3) := by decide +kernel
theorem dX1_isUsableTable_20 : decode cX1_isUsableTable 20 = .ok (.iload_n 1, 1) := by decide +kernel
theorem dX1_isUsableTable_21 : decode cX1_isUsableTable 21 = .ok (.aaload, 1) := by decide +kernel
theorem dX1_isUsableTable_22 : decode cX1_isUsableTable 22 = .ok (.iconst 1, 1) := by decide +kernel
theorem dX1_isUsableTable_23 : decode cX1_isUsableTable 23 = .ok (.iaload, 1) := by decide +kernel
theorem dX1_isUsableTable_24 : decode cX1_isUsableTable 24 = .ok (.iload_n 2, 1) := by decide +kernel
theorem dX1_isUsableTable_25 : decode cX1_isUsableTable 25 = .ok (.if_icmp .eq 5, 3) := by decide +kernel
theorem dX1_isUsableTable_28 : decode cX1_isUsableTable 28 = .ok (.iconst 0, 1) := by decide +kernel
theorem dX1_isUsableTable_29 : decode cX1_isUsableTable 29 = .ok (.ireturn, 1) := by decide +kernel
theorem dX1_isUsableTable_30 : decode cX1_isUsableTable 30 = .ok (.iconst 0, 1) := by decide +kernel
theorem dX1_isUsableTable_31 : decode cX1_isUsableTable 31 = .ok (.istore_n 3, 1) := by decide +kernel
theorem dX1_isUsableTable_32 : decode cX1_isUsableTable 32 = .ok (.iload_n 3, 1) := by decide +kernel
theorem dX1_isUsableTable_33 : decode cX1_isUsableTable 33 = .ok (.bipush 8, 2) := by decide +kernel
theorem dX1_isUsableTable_35 : decode cX1_isUsableTable 35 = .ok (.if_icmp .ge 39, 3) := by decide +kernel
theorem dX1_isUsableTable_38 : decode cX1_isUsableTable 38 = .ok (.aload_n 0, 1) := by decide +kernel
theorem dX1_isUsableTable_39 : decode cX1_isUsableTable 39 = .ok (.getfield 11, 3) := by decide +kernel
theorem dX1_isUsableTable_42 : decode cX1_isUsableTable 42 = .ok (.iload_n 1, 1) := by decide +kernel
theorem dX1_isUsableTable_43 : decode cX1_isUsableTable 43 = .ok (.aaload, 1) := by decide +kernel
theorem dX1_isUsableTable_44 : decode cX1_isUsableTable 44 = .ok (.iconst 4, 1) := by decide +kernel
theorem dX1_isUsableTable_45 : decode cX1_isUsableTable 45 = .ok (.iload_n 3, 1) := by decide +kernel
theorem dX1_isUsableTable_46 : decode cX1_isUsableTable 46 = .ok (.iadd, 1) := by decide +kernel
theorem dX1_isUsableTable_47 : decode cX1_isUsableTable 47 = .ok (.iaload, 1) := by decide +kernel
theorem dX1_isUsableTable_48 : decode cX1_isUsableTable 48 = .ok (.istore 4, 2) := by decide +kernel
theorem dX1_isUsableTable_50 : decode cX1_isUsableTable 50 = .ok (.iload 4, 2) := by decide +kernel
theorem dX1_isUsableTable_52 : decode cX1_isUsableTable 52 = .ok (.iconst (-1), 1) := by decide +kernel
theorem dX1_isUsableTable_53 : decode cX1_isUsableTable 53 = .ok (.if_icmp .eq 15, 3) := by decide +kernel
theorem dX1_isUsableTable_56 : decode cX1_isUsableTable 56 = .ok (.aload_n 0, 1) := by decide +kernel
theorem dX1_isUsableTable_57 : decode cX1_isUsableTable 57 = .ok (.iload 4, 2) := by decide +kernel
theorem dX1_isUsableTable_59 : decode cX1_isUsableTable 59 = .ok (.iload_n 3, 1) := by decide +kernel
theorem dX1_isUsableTable_60 : decode cX1_isUsableTable 60 = .ok (.invokevirtual 51, 3) := by decide +kernel
theorem dX1_isUsableTable_63 : decode cX1_isUsableTable 63 = .ok (.ifCond .ne 5, 3) := by decide +kernel
theorem dX1_isUsableTable_66 : decode cX1_isUsableTable 66 = .ok (.iconst 0, 1) := by decide +kernel
theorem dX1_isUsableTable_67 : decode cX1_isUsableTable 67 = .ok (.ireturn, 1) := by decide +kernel
theorem dX1_isUsableTable_68 : decode cX1_isUsableTable 68 = .ok (.iinc 3 1, 3) := by decide +kernel
theorem dX1_isUsableTable_71 : decode cX1_isUsableTable 71 = .ok (.goto (-39), 3) := by decide +kernel
theorem dX1_isUsableTable_74 : decode cX1_isUsableTable 74 = .ok (.iconst 1, 1) := by decide +kernel
theorem dX1_isUsableTable_75 : decode cX1_isUsableTable 75 = .ok (.ireturn, 1) := by decide +kernel
set_option maxRecDepth 20000 in
theorem ggX1_isUsablePage_X1_isDataBlock : GoodIn wsX1_isUsablePage wsX1_isDataBlock := goodIn_r _ [5] (by decide +kernel) (by decide +kernel)
set_option maxRecDepth 20000 in
theorem gX1_isUsablePage_X1_isDataBlock : GoodIn wsX1_isUsablePage (va_wsS RX1 48 yX1_isDataBlock wsX1_isDataBlock) := goodIn_app (goodIn_of _ (by decide +kernel)) ggX1_isUsablePage_X1_isDataBlock
set_option maxRecDepth 20000 in
theorem ggX1_isUsablePage_X1_isValidForm : GoodIn wsX1_isUsablePage wsX1_isValidForm := goodIn_r _ [9, 1, 10, 11, 12, 4, 13, 14, 15, 16, 17, 18, 19] (by decide +kernel) (by decide +kernel)
set_option maxRecDepth 20000 in
theorem gX1_isUsablePage_X1_isValidForm : GoodIn wsX1_isUsablePage (wsV RX1 40 RX1 yX1_isValidForm wsX1_isValidForm) := goodIn_app (goodIn_of _ (by decide +kernel)) ggX1_isUsablePage_X1_isValidForm
theorem dX1_isUsablePage_0 : decode cX1_isUsablePage 0 = .ok (.iload_n 1, 1) := by decide +kernel
theorem dX1_isUsablePage_1 : decode cX1_isUsablePage 1 = .ok (.invokestatic 48, 3) := by decide +kernel
theorem dX1_isUsablePage_4 : decode cX1_isUsablePage 4 = .ok (.ifCond .eq 28, 3) := by decide +kernel
theorem dX1_isUsablePage_7 : decode cX1_isUsablePage 7 = .ok (.aload_n 0, 1) := by decide +kernel
theorem dX1_isUsablePage_8 : decode cX1_isUsablePage 8 = .ok (.iload_n 1, 1) := by decide +kernel
theorem dX1_isUsablePage_9 : decode cX1_isUsablePage 9 = .ok (.iconst 3, 1) := by decide +kernel
theorem dX1_isUsablePage_10 : decode cX1_isUsablePage 10 = .ok (.invokevirtual 40, 3) := by decide +kernel
theorem dX1_isUsablePage_13 : decode cX1_isUsablePage 13 = .ok (.ifCond .eq 19, 3) := by decide +kernel
theorem dX1_isUsablePage_16 : decode cX1_isUsablePage 16 = .ok (.aload_n 0, 1) := by decide +kernel
theorem dX1_isUsablePage_17 : decode cX1_isUsablePage 17 = .ok (.getfield 11, 3) := by decide +kernel
theorem dX1_isUsablePage_20 : decode cX1_isUsablePage 20 = .ok (.iload_n 1, 1) := by decide +kernel
theorem dX1_isUsablePage_21 : decode cX1_isUsablePage 21 = .ok (.aaload, 1) := by decide +kernel
theorem dX1_isUsablePage_22 : decode cX1_isUsablePage 22 = .ok (.iconst 2, 1) := by decide +kernel
theorem dX1_isUsablePage_23 : decode cX1_isUsablePage 23 = .ok (.iaload, 1) := by decide +kernel
theorem dX1_isUsablePage_24 : decode cX1_isUsablePage 24 = .ok (.iload_n 2, 1) := by decide +kernel
theorem dX1_isUsablePage_25 : decode cX1_isUsablePage 25 = .ok (.if_icmp .ne 7, 3) := by decide +kernel
theorem dX1_isUsablePage_28 : decode cX1_isUsablePage 28 = .ok (.iconst 1, 1) := by decide +kernel
theorem dX1_isUsablePage_29 : decode cX1_isUsablePage 29 = .ok (.goto 4, 3) := by decide +kernel
theorem dX1_isUsablePage_32 : decode cX1_isUsablePage 32 = .ok (.iconst 0, 1) := by decide +kernel
theorem dX1_isUsablePage_33 : decode cX1_isUsablePage 33 = .ok (.ireturn, 1) := by decide +kernel
theorem dX1_isDataBlock_0 : decode cX1_isDataBlock 0 = .ok (.iload_n 0, 1) := by decide +kernel
theorem dX1_isDataBlock_1 : decode cX1_isDataBlock 1 = .ok (.iconst 2, 1) := by decide +kernel
theorem dX1_isDataBlock_2 : decode cX1_isDataBlock 2 = .ok (.if_icmp .lt 13, 3) := by decide +kernel
theorem dX1_isDataBlock_5 : decode cX1_isDataBlock 5 = .ok (.iload_n 0, 1) := by decide +kernel
theorem dX1_isDataBlock_6 : decode cX1_isDataBlock 6 = .ok (.bipush 32, 2) := by decide +kernel
theorem dX1_isDataBlock_8 : decode cX1_isDataBlock 8 = .ok (.if_icmp .ge 7, 3) := by decide +kernel
theorem dX1_isDataBlock_11 : decode cX1_isDataBlock 11 = .ok (.iconst 1, 1) := by decide +kernel
theorem dX1_isDataBlock_12 : decode cX1_isDataBlock 12 = .ok (.goto 4, 3) := by decide +kernel
theorem dX1_isDataBlock_15 : decode cX1_isDataBlock 15 = .ok (.iconst 0, 1) := by decide +kernel
theorem dX1_isDataBlock_16 : decode cX1_isDataBlock 16 = .ok (.ireturn, 1) := by decide +kernel
theorem dX2_init_0 : decode cX2_init 0 = .ok (.aload_n 0, 1) := by decide +kernel
theorem dX2_init_1 : decode cX2_init 1 = .ok (.invokespecial 3, 3) := by decide +kernel
theorem dX2_init_4 : decode cX2_init 4 = .ok (.aload_n 0, 1) := by decide +kernel
theorem dX2_init_5 : decode cX2_init 5 = .ok (.bipush 60, 2) := by decide +kernel
theorem dX2_init_7 : decode cX2_init 7 = .ok (.newarray .char, 2) := by decide +kernel
theorem dX2_init_9 : decode cX2_init 9 = .ok (.putfield 11, 3) := by decide +kernel
theorem dX2_init_12 : decode cX2_init 12 = .ok (.aload_n 0, 1) := by decide +kernel
theorem dX2_init_13 : decode cX2_init 13 = .ok (.iconst 0, 1) := by decide +kernel
theorem dX2_init_14 : decode cX2_init 14 = .ok (.putfield 15, 3) := by decide +kernel
theorem dX2_init_17 : decode cX2_init 17 = .ok (.aload_n 0, 1) := by decide +kernel
theorem dX2_init_18 : decode cX2_init 18 = .ok (.bipush 60, 2) := by decide +kernel
theorem dX2_init_20 : decode cX2_init 20 = .ok (.newarray .int, 2) := by decide +kernel
theorem dX2_init_22 : decode cX2_init 22 = .ok (.putfield 19, 3) := by decide +kernel
theorem dX2_init_25 : decode cX2_init 25 = .ok (.aload_n 0, 1) := by decide +kernel
theorem dX2_init_26 : decode cX2_init 26 = .ok (.bipush 60, 2) := by decide +kernel
theorem dX2_init_28 : decode cX2_init 28 = .ok (.newarray .int, 2) := by decide +kernel
theorem dX2_init_30 : decode cX2_init 30 = .ok (.putfield 23, 3) := by decide +kernel
theorem dX2_init_33 : decode cX2_init 33 = .ok (.aload_n 0, 1) := by decide +kernel
theorem dX2_init_34 : decode cX2_init 34 = .ok (.bipush 60, 2) := by decide +kernel
theorem dX2_init_36 : decode cX2_init 36 = .ok (.newarray .int, 2) := by decide +kernel
theorem dX2_init_38 : decode cX2_init 38 = .ok (.putfield 26, 3) := by decide +kernel
theorem dX2_init_41 : decode cX2_init 41 = .ok (.aload_n 0, 1) := by decide +kernel
theorem dX2_init_42 : decode cX2_init 42 = .ok (.bipush 60, 2) := by decide +kernel
theorem dX2_init_44 : decode cX2_init 44 = .ok (.newarray .boolean, 2) := by decide +kernel
theorem dX2_init_46 : decode cX2_init 46 = .ok (.putfield 29, 3) := by decide +kernel
theorem dX2_init_49 : decode cX2_init 49 = .ok (.aload_n 0, 1) := by decide +kernel
theorem dX2_init_50 : decode cX2_init 50 = .ok (.iconst 0, 1) := by decide +kernel
theorem dX2_init_51 : decode cX2_init 51 = .ok (.putfield 33, 3) := by decide +kernel
theorem dX2_init_54 : decode cX2_init 54 = .ok (.return_, 1) := by decide +kernel
theorem dX2_append_0 : decode cX2_append 0 = .ok (.aload_n 0, 1) := by decide +kernel
theorem dX2_append_1 : decode cX2_append 1 = .ok (.getfield 15, 3) := by decide +kernel
theorem dX2_append_4 : decode cX2_append 4 = .ok (.bipush 60, 2) := by decide +kernel
theorem dX2_append_6 : decode cX2_append 6 = .ok (.if_icmp .ge 23, 3) := by decide +kernel
theorem dX2_append_9 : decode cX2_append 9 = .ok (.aload_n 0, 1) := by decide +kernel
theorem dX2_append_10 : decode cX2_append 10 = .ok (.getfield 11, 3) := by decide +kernel
theorem dX2_append_13 : decode cX2_append 13 = .ok (.aload_n 0, 1) := by decide +kernel
theorem dX2_append_14 : decode cX2_append 14 = .ok (.getfield 15, 3) := by decide +kernel
theorem dX2_append_17 : decode cX2_append 17 = .ok (.iload_n 1, 1) := by decide +kernel
theorem dX2_append_18 : decode cX2_append 18 = .ok (.castore, 1) := by decide +kernel
theorem dX2_append_19 : decode cX2_append 19 = .ok (.aload_n 0, 1) := by decide +kernel
theorem dX2_append_20 : decode cX2_append 20 = .ok (.dup, 1) := by decide +kernel
theorem dX2_append_21 : decode cX2_append 21 = .ok (.getfield 15, 3) := by decide +kernel
theorem dX2_append_24 : decode cX2_append 24 = .ok (.iconst 1, 1) := by decide +kernel
theorem dX2_append_25 : decode cX2_append 25 = .ok (.iadd, 1) := by decide +kernel
theorem dX2_append_26 : decode cX2_append 26 = .ok (.putfield 15, 3) := by decide +kernel
theorem dX2_append_29 : decode cX2_append 29 = .ok (.return_, 1) := by decide +kernel
set_option maxRecDepth 20000 in
theorem ggX2_parse_X2_follow : GoodIn wsX2_parse wsX2_follow := goodIn_r _ [7, 8, 9, 6, 10, 11, 12, 13, 14, 15, 16] (by decide +kernel) (by decide +kernel)
set_option maxRecDepth 20000 in
theorem gX2_parse_X2_follow : GoodIn wsX2_parse (va_wsS RX2 36 yX2_follow wsX2_follow) := goodIn_app (goodIn_of _ (by decide +kernel)) ggX2_parse_X2_follow
set_option maxRecDepth 20000 in
theorem ggX2_parse_X2_takeDigit : GoodIn wsX2_parse wsX2_takeDigit := goodIn_r _ [20, 3, 1, 21, 22, 23, 24, 29, 30, 31, 32, 33, 34, 35] (by decide +kernel) (by decide +kernel)
set_option maxRecDepth 20000 in
theorem gX2_parse_X2_takeDigit : GoodIn wsX2_parse (wsV RX2 40 RX2 yX2_takeDigit wsX2_takeDigit) := goodIn_app (goodIn_of _ (by decide +kernel)) ggX2_parse_X2_takeDigit
set_option maxRecDepth 20000 in
theorem ggX2_parse_X2_mayEnd : GoodIn wsX2_parse wsX2_mayEnd := goodIn_r _ [16] (by decide +kernel) (by decide +kernel)
set_option maxRecDepth 20000 in
theorem gX2_parse_X2_mayEnd : GoodIn wsX2_parse (va_wsS RX2 44 yX2_mayEnd wsX2_mayEnd) := goodIn_app (goodIn_of _ (by decide +kernel)) ggX2_parse_X2_mayEnd
set_option maxRecDepth 20000 in
theorem ggX2_parse_X2_placeOfGreatKey : GoodIn wsX2_parse wsX2_placeOfGreatKey := goodIn_r _ [28, 1, 21, 22, 29, 30, 31, 32, 33, 34, 35] (by decide +kernel) (by decide +kernel)
set_option maxRecDepth 20000 in
theorem gX2_parse_X2_placeOfGreatKey : GoodIn wsX2_parse (wsV RX2 48 RX2 yX2_placeOfGreatKey wsX2_placeOfGreatKey) := goodIn_app (goodIn_of _ (by decide +kernel)) ggX2_parse_X2_placeOfGreatKey
theorem dX2_parse_0 : decode cX2_parse 0 = .ok (.aload_n 0, 1) := by decide +kernel
theorem dX2_parse_1 : decode cX2_parse 1 = .ok (.iconst 0, 1) := by decide +kernel
theorem dX2_parse_2 : decode cX2_parse 2 = .ok (.putfield 33, 3) := by decide +kernel
theorem dX2_parse_5 : decode cX2_parse 5 = .ok (.iconst 0, 1) := by decide +kernel
theorem dX2_parse_6 : decode cX2_parse 6 = .ok (.istore_n 1, 1) := by decide +kernel
theorem dX2_parse_7 : decode cX2_parse 7 = .ok (.iconst 1, 1) := by decide +kernel
theorem dX2_parse_8 : decode cX2_parse 8 = .ok (.istore_n 2, 1) := by decide +kernel
theorem dX2_parse_9 : decode cX2_parse 9 = .ok (.iconst 0, 1) := by decide +kernel
theorem dX2_parse_10 : decode cX2_parse 10 = .ok (.istore_n 3, 1) := by decide +kernel
theorem dX2_parse_11 : decode cX2_parse 11 = .ok (.iload_n 3, 1) := by decide +kernel
theorem dX2_parse_12 : decode cX2_parse 12 = .ok (.aload_n 0, 1) := by decide +kernel
theorem dX2_parse_13 : decode cX2_parse 13 = .ok (.getfield 15, 3) := by decide +kernel
theorem dX2_parse_16 : decode cX2_parse 16 = .ok (.if_icmp .ge 54, 3) := by decide +kernel
theorem dX2_parse_19 : decode cX2_parse 19 = .ok (.iload_n 1, 1) := by decide +kernel
theorem dX2_parse_20 : decode cX2_parse 20 = .ok (.aload_n 0, 1) := by decide +kernel
theorem dX2_parse_21 : decode cX2_parse 21 = .ok (.getfield 11, 3) := by decide +kernel
theorem dX2_parse_24 : decode cX2_parse 24 = .ok (.iload_n 3, 1) := by decide +kernel
theorem dX2_parse_25 : decode cX2_parse 25 = .ok (.caload, 1) := by decide +kernel
theorem dX2_parse_26 : decode cX2_parse 26 = .ok (.invokestatic 36, 3) := by decide +kernel
theorem dX2_parse_29 : decode cX2_parse 29 = .ok (.istore_n 1, 1) := by decide +kernel
theorem dX2_parse_30 : decode cX2_parse 30 = .ok (.iload_n 1, 1) := by decide +kernel
theorem dX2_parse_31 : decode cX2_parse 31 = .ok (.iconst (-1), 1) := by decide +kernel
theorem dX2_parse_32 : decode cX2_parse 32 = .ok (.if_icmp .ne 5, 3) := by decide +kernel
theorem dX2_parse_35 : decode cX2_parse 35 = .ok (.iload_n 3, 1) := by decide +kernel
theorem dX2_parse_36 : decode cX2_parse 36 = .ok (.ireturn, 1) := by decide +kernel
theorem dX2_parse_37 : decode cX2_parse 37 = .ok (.iload_n 1, 1) := by decide +kernel
theorem dX2_parse_38 : decode cX2_parse 38 = .ok (.iconst 3, 1) := by decide +kernel
theorem dX2_parse_39 : decode cX2_parse 39 = .ok (.if_icmp .ne 8, 3) := by decide +kernel
theorem dX2_parse_42 : decode cX2_parse 42 = .ok (.iconst 1, 1) := by decide +kernel
theorem dX2_parse_43 : decode cX2_parse 43 = .ok (.istore_n 2, 1) := by decide +kernel
theorem dX2_parse_44 : decode cX2_parse 44 = .ok (.goto 20, 3) := by decide +kernel
theorem dX2_parse_47 : decode cX2_parse 47 = .ok (.iload_n 1, 1) := by decide +kernel
theorem dX2_parse_48 : decode cX2_parse 48 = .ok (.iconst 4, 1) := by decide +kernel
theorem dX2_parse_49 : decode cX2_parse 49 = .ok (.if_icmp .ne 8, 3) := by decide +kernel
theorem dX2_parse_52 : decode cX2_parse 52 = .ok (.iconst (-1), 1) := by decide +kernel
theorem dX2_parse_53 : decode cX2_parse 53 = .ok (.istore_n 2, 1) := by decide +kernel
theorem dX2_parse_54 : decode cX2_parse 54 = .ok (.goto 10, 3) := by decide +kernel
theorem dX2_parse_57 : decode cX2_parse 57 = .ok (.aload_n 0, 1) := by decide +kernel
theorem dX2_parse_58 : decode cX2_parse 58 = .ok (.iload_n 1, 1) := by decide +kernel
theorem dX2_parse_59 : decode cX2_parse 59 = .ok (.iload_n 3, 1) := by decide +kernel
theorem dX2_parse_60 : decode cX2_parse 60 = .ok (.iload_n 2, 1) := by decide +kernel
theorem dX2_parse_61 : decode cX2_parse 61 = .ok (.invokevirtual 40, 3) := by decide +kernel
theorem dX2_parse_64 : decode cX2_parse 64 = .ok (.iinc 3 1, 3) := by decide +kernel
theorem dX2_parse_67 : decode cX2_parse 67 = .ok (.goto (-56), 3) := by decide +kernel
theorem dX2_parse_70 : decode cX2_parse 70 = .ok (.iload_n 1, 1) := by decide +kernel
theorem dX2_parse_71 : decode cX2_parse 71 = .ok (.invokestatic 44, 3) := by decide +kernel
theorem dX2_parse_74 : decode cX2_parse 74 = .ok (.ifCond .eq 10, 3) := by decide +kernel
theorem dX2_parse_77 : decode cX2_parse 77 = .ok (.aload_n 0, 1) := by decide +kernel
theorem dX2_parse_78 : decode cX2_parse 78 = .ok (.invokevirtual 48, 3) := by decide +kernel
theorem dX2_parse_81 : decode cX2_parse 81 = .ok (.goto 7, 3) := by decide +kernel
theorem dX2_parse_84 : decode cX2_parse 84 = .ok (.aload_n 0, 1) := by decide +kernel
theorem dX2_parse_85 : decode cX2_parse 85 = .ok (.getfield 15, 3) := by decide +kernel
theorem dX2_parse_88 : decode cX2_parse 88 = .ok (.ireturn, 1) := by decide +kernel
theorem dX2_mayEnd_0 : decode cX2_mayEnd 0 = .ok (.iload_n 0, 1) := by decide +kernel
theorem dX2_mayEnd_1 : decode cX2_mayEnd 1 = .ok (.iconst 5, 1) := by decide +kernel
theorem dX2_mayEnd_2 : decode cX2_mayEnd 2 = .ok (.if_icmp .lt 9, 3) := by decide +kernel
theorem dX2_mayEnd_5 : decode cX2_mayEnd 5 = .ok (.iload_n 0, 1) := by decide +kernel
theorem dX2_mayEnd_6 : decode cX2_mayEnd 6 = .ok (.bipush 8, 2) := by decide +kernel
theorem dX2_mayEnd_8 : decode cX2_mayEnd 8 = .ok (.if_icmp .le 15, 3) := by decide +kernel
theorem dX2_mayEnd_11 : decode cX2_mayEnd 11 = .ok (.iload_n 0, 1) := by decide +kernel
theorem dX2_mayEnd_12 : decode cX2_mayEnd 12 = .ok (.bipush 10, 2) := by decide +kernel
theorem dX2_mayEnd_14 : decode cX2_mayEnd 14 = .ok (.if_icmp .eq 9, 3) := by decide +kernel
theorem dX2_mayEnd_17 : decode cX2_mayEnd 17 = .ok (.iload_n 0, 1) := by decide +kernel
theorem dX2_mayEnd_18 : decode cX2_mayEnd 18 = .ok (.bipush 11, 2) := by decide +kernel
theorem dX2_mayEnd_20 : decode cX2_mayEnd 20 = .ok (.if_icmp .ne 7, 3) := by decide +kernel
theorem dX2_mayEnd_23 : decode cX2_mayEnd 23 = .ok (.iconst 1, 1) := by decide +kernel
theorem dX2_mayEnd_24 : decode cX2_mayEnd 24 = .ok (.goto 4, 3) := by decide +kernel
theorem dX2_mayEnd_27 : decode cX2_mayEnd 27 = .ok (.iconst 0, 1) := by decide +kernel
theorem dX2_mayEnd_28 : decode cX2_mayEnd 28 = .ok (.ireturn, 1) := by decide +kernel
theorem dX2_isDigit_0 : decode cX2_isDigit 0 = .ok (.iload_n 0, 1) := by decide +kernel
theorem dX2_isDigit_1 : decode cX2_isDigit 1 = .ok (.bipush 48, 2) := by decide +kernel
theorem dX2_isDigit_3 : decode cX2_isDigit 3 = .ok (.if_icmp .lt 13, 3) := by decide +kernel
theorem dX2_isDigit_6 : decode cX2_isDigit 6 = .ok (.iload_n 0, 1) := by decide +kernel
theorem dX2_isDigit_7 : decode cX2_isDigit 7 = .ok (.bipush 57, 2) := by decide +kernel
theorem dX2_isDigit_9 : decode cX2_isDigit 9 = .ok (.if_icmp .gt 7, 3) := by decide +kernel
theorem dX2_isDigit_12 : decode cX2_isDigit 12 = .ok (.iconst 1, 1) := by decide +kernel
theorem dX2_isDigit_13 : decode cX2_isDigit 13 = .ok (.goto 4, 3) := by decide +kernel
theorem dX2_isDigit_16 : decode cX2_isDigit 16 = .ok (.iconst 0, 1) := by decide +kernel
theorem dX2_isDigit_17 : decode cX2_isDigit 17 = .ok (.ireturn, 1) := by decide +kernel
set_option maxRecDepth 20000 in
theorem ggX2_follow_X2_isDigit : GoodIn wsX2_follow wsX2_isDigit := goodIn_r _ [4] (by decide +kernel) (by decide +kernel)
set_option maxRecDepth 20000 in
theorem gX2_follow_X2_isDigit : GoodIn wsX2_follow (va_wsS RX2 52 yX2_isDigit wsX2_isDigit) := goodIn_app (goodIn_of _ (by decide +kernel)) ggX2_follow_X2_isDigit
set_option maxRecDepth 20000 in
theorem ggX2_follow_X2_followDigit : GoodIn wsX2_follow wsX2_followDigit := goodIn_r _ [7] (by decide +kernel) (by decide +kernel)
set_option maxRecDepth 20000 in
theorem gX2_follow_X2_followDigit : GoodIn wsX2_follow (va_wsS RX2 56 yX2_followDigit wsX2_followDigit) := goodIn_app (goodIn_of _ (by decide +kernel)) ggX2_follow_X2_followDigit
set_option maxRecDepth 20000 in
theorem ggX2_follow_X2_mayEnd : GoodIn wsX2_follow wsX2_mayEnd := goodIn_r _ [10] (by decide +kernel) (by decide +kernel)
set_option maxRecDepth 20000 in
theorem gX2_follow_X2_mayEnd : GoodIn wsX2_follow (va_wsS RX2 44 yX2_mayEnd wsX2_mayEnd) := goodIn_app (goodIn_of _ (by decide +kernel)) ggX2_follow_X2_mayEnd
theorem dX2_follow_0 : decode cX2_follow 0 = .ok (.iload_n 1, 1) := by decide +kernel
theorem dX2_follow_1 : decode cX2_follow 1 = .ok (.invokestatic 52, 3) := by decide +kernel
theorem dX2_follow_4 : decode cX2_follow 4 = .ok (.ifCond .eq 8, 3) := by decide +kernel
theorem dX2_follow_7 : decode cX2_follow 7 = .ok (.iload_n 0, 1) := by decide +kernel
theorem dX2_follow_8 : decode cX2_follow 8 = .ok (.invokestatic 56, 3) := by decide +kernel
theorem dX2_follow_11 : decode cX2_follow 11 = .ok (.ireturn, 1) := by decide +kernel
theorem dX2_follow_12 : decode cX2_follow 12 = .ok (.iload_n 1, 1) := by decide +kernel
theorem dX2_follow_13 : decode cX2_follow 13 = .ok (.bipush 44, 2) := by decide +kernel
theorem dX2_follow_15 : decode cX2_follow 15 = .ok (.if_icmp .ne 12, 3) := by decide +kernel
theorem dX2_follow_18 : decode cX2_follow 18 = .ok (.iload_n 0, 1) := by decide +kernel
theorem dX2_follow_19 : decode cX2_follow 19 = .ok (.invokestatic 44, 3) := by decide +kernel
theorem dX2_follow_22 : decode cX2_follow 22 = .ok (.ifCond .eq 5, 3) := by decide +kernel
theorem dX2_follow_25 : decode cX2_follow 25 = .ok (.iconst 0, 1) := by decide +kernel
theorem dX2_follow_26 : decode cX2_follow 26 = .ok (.ireturn, 1) := by decide +kernel
theorem dX2_follow_27 : decode cX2_follow 27 = .ok (.iload_n 1, 1) := by decide +kernel
theorem dX2_follow_28 : decode cX2_follow 28 = .ok (.bipush 61, 2) := by decide +kernel
theorem dX2_follow_30 : decode cX2_follow 30 = .ok (.if_icmp .ne 15, 3) := by decide +kernel
theorem dX2_follow_33 : decode cX2_follow 33 = .ok (.iload_n 0, 1) := by decide +kernel
theorem dX2_follow_34 : decode cX2_follow 34 = .ok (.iconst 1, 1) := by decide +kernel
theorem dX2_follow_35 : decode cX2_follow 35 = .ok (.if_icmp .eq 8, 3) := by decide +kernel
theorem dX2_follow_38 : decode cX2_follow 38 = .ok (.iload_n 0, 1) := by decide +kernel
theorem dX2_follow_39 : decode cX2_follow 39 = .ok (.iconst 2, 1) := by decide +kernel
theorem dX2_follow_40 : decode cX2_follow 40 = .ok (.if_icmp .ne 5, 3) := by decide +kernel
theorem dX2_follow_43 : decode cX2_follow 43 = .ok (.iconst 3, 1) := by decide +kernel
theorem dX2_follow_44 : decode cX2_follow 44 = .ok (.ireturn, 1) := by decide +kernel
theorem dX2_follow_45 : decode cX2_follow 45 = .ok (.iload_n 1, 1) := by decide +kernel
theorem dX2_follow_46 : decode cX2_follow 46 = .ok (.bipush 45, 2) := by decide +kernel
theorem dX2_follow_48 : decode cX2_follow 48 = .ok (.if_icmp .ne 10, 3) := by decide +kernel
theorem dX2_follow_51 : decode cX2_follow 51 = .ok (.iload_n 0, 1) := by decide +kernel
theorem dX2_follow_52 : decode cX2_follow 52 = .ok (.ifCond .ne 6, 3) := by decide +kernel
theorem dX2_follow_55 : decode cX2_follow 55 = .ok (.bipush 9, 2) := by decide +kernel
theorem dX2_follow_57 : decode cX2_follow 57 = .ok (.ireturn, 1) := by decide +kernel
theorem dX2_follow_58 : decode cX2_follow 58 = .ok (.iload_n 1, 1) := by decide +kernel
theorem dX2_follow_59 : decode cX2_follow 59 = .ok (.bipush 45, 2) := by decide +kernel
theorem dX2_follow_61 : decode cX2_follow 61 = .ok (.if_icmp .ne 12, 3) := by decide +kernel
theorem dX2_follow_64 : decode cX2_follow 64 = .ok (.iload_n 0, 1) := by decide +kernel
theorem dX2_follow_65 : decode cX2_follow 65 = .ok (.iconst 3, 1) := by decide +kernel
theorem dX2_follow_66 : decode cX2_follow 66 = .ok (.if_icmp .ne 7, 3) := by decide +kernel
theorem dX2_follow_69 : decode cX2_follow 69 = .ok (.iconst 4, 1) := by decide +kernel
theorem dX2_follow_70 : decode cX2_follow 70 = .ok (.goto 4, 3) := by decide +kernel
theorem dX2_follow_73 : decode cX2_follow 73 = .ok (.iconst (-1), 1) := by decide +kernel
theorem dX2_follow_74 : decode cX2_follow 74 = .ok (.ireturn, 1) := by decide +kernel
theorem dX2_followDigit_0 : decode cX2_followDigit 0 = .ok (.iload_n 0, 1) := by decide +kernel
theorem dX2_followDigit_1 : decode cX2_followDigit 1 = .ok (.tableswitch 69 0 11 #[63, 69, 67, 65, 65, 69, 69, 69, 67, 69, 69, 67], 63) := by decide +kernel
theorem dX2_followDigit_64 : decode cX2_followDigit 64 = .ok (.iconst 1, 1) := by decide +kernel
theorem dX2_followDigit_65 : decode cX2_followDigit 65 = .ok (.ireturn, 1) := by decide +kernel
theorem dX2_followDigit_66 : decode cX2_followDigit 66 = .ok (.iconst 5, 1) := by decide +kernel
theorem dX2_followDigit_67 : decode cX2_followDigit 67 = .ok (.ireturn, 1) := by decide +kernel
theorem dX2_followDigit_68 : decode cX2_followDigit 68 = .ok (.iconst (-1), 1) := by decide +kernel
theorem dX2_followDigit_69 : decode cX2_followDigit 69 = .ok (.ireturn, 1) := by decide +kernel
theorem dX2_followDigit_70 : decode cX2_followDigit 70 = .ok (.iload_n 0, 1) := by decide +kernel
theorem dX2_followDigit_71 : decode cX2_followDigit 71 = .ok (.iconst 1, 1) := by decide +kernel
theorem dX2_followDigit_72 : decode cX2_followDigit 72 = .ok (.iadd, 1) := by decide +kernel
theorem dX2_followDigit_73 : decode cX2_followDigit 73 = .ok (.ireturn, 1) := by decide +kernel
theorem dX2_takeDigit_0 : decode cX2_takeDigit 0 = .ok (.aload_n 0, 1) := by decide +kernel
theorem dX2_takeDigit_1 : decode cX2_takeDigit 1 = .ok (.getfield 11, 3) := by decide +kernel
theorem dX2_takeDigit_4 : decode cX2_takeDigit 4 = .ok (.iload_n 2, 1) := by decide +kernel
theorem dX2_takeDigit_5 : decode cX2_takeDigit 5 = .ok (.caload, 1) := by decide +kernel
theorem dX2_takeDigit_6 : decode cX2_takeDigit 6 = .ok (.bipush 48, 2) := by decide +kernel
theorem dX2_takeDigit_8 : decode cX2_takeDigit 8 = .ok (.isub, 1) := by decide +kernel
theorem dX2_takeDigit_9 : decode cX2_takeDigit 9 = .ok (.istore 4, 2) := by decide +kernel
theorem dX2_takeDigit_11 : decode cX2_takeDigit 11 = .ok (.aload_n 0, 1) := by decide +kernel
theorem dX2_takeDigit_12 : decode cX2_takeDigit 12 = .ok (.getfield 33, 3) := by decide +kernel
theorem dX2_takeDigit_15 : decode cX2_takeDigit 15 = .ok (.bipush 60, 2) := by decide +kernel
theorem dX2_takeDigit_17 : decode cX2_takeDigit 17 = .ok (.if_icmp .ge 78, 3) := by decide +kernel
theorem dX2_takeDigit_20 : decode cX2_takeDigit 20 = .ok (.iload_n 1, 1) := by decide +kernel
theorem dX2_takeDigit_21 : decode cX2_takeDigit 21 = .ok (.iconst 1, 1) := by decide +kernel
theorem dX2_takeDigit_22 : decode cX2_takeDigit 22 = .ok (.if_icmp .eq 9, 3) := by decide +kernel
theorem dX2_takeDigit_25 : decode cX2_takeDigit 25 = .ok (.iload_n 1, 1) := by decide +kernel
theorem dX2_takeDigit_26 : decode cX2_takeDigit 26 = .ok (.bipush 10, 2) := by decide +kernel
theorem dX2_takeDigit_28 : decode cX2_takeDigit 28 = .ok (.if_icmp .ne 67, 3) := by decide +kernel
theorem dX2_takeDigit_31 : decode cX2_takeDigit 31 = .ok (.aload_n 0, 1) := by decide +kernel
theorem dX2_takeDigit_32 : decode cX2_takeDigit 32 = .ok (.getfield 19, 3) := by decide +kernel
theorem dX2_takeDigit_35 : decode cX2_takeDigit 35 = .ok (.aload_n 0, 1) := by decide +kernel
theorem dX2_takeDigit_36 : decode cX2_takeDigit 36 = .ok (.getfield 33, 3) := by decide +kernel
theorem dX2_takeDigit_39 : decode cX2_takeDigit 39 = .ok (.iload 4, 2) := by decide +kernel
theorem dX2_takeDigit_41 : decode cX2_takeDigit 41 = .ok (.iastore, 1) := by decide +kernel
theorem dX2_takeDigit_42 : decode cX2_takeDigit 42 = .ok (.aload_n 0, 1) := by decide +kernel
theorem dX2_takeDigit_43 : decode cX2_takeDigit 43 = .ok (.getfield 23, 3) := by decide +kernel
theorem dX2_takeDigit_46 : decode cX2_takeDigit 46 = .ok (.aload_n 0, 1) := by decide +kernel
theorem dX2_takeDigit_47 : decode cX2_takeDigit 47 = .ok (.getfield 33, 3) := by decide +kernel
theorem dX2_takeDigit_50 : decode cX2_takeDigit 50 = .ok (.iload_n 2, 1) := by decide +kernel
theorem dX2_takeDigit_51 : decode cX2_takeDigit 51 = .ok (.iastore, 1) := by decide +kernel
theorem dX2_takeDigit_52 : decode cX2_takeDigit 52 = .ok (.aload_n 0, 1) := by decide +kernel
theorem dX2_takeDigit_53 : decode cX2_takeDigit 53 = .ok (.getfield 26, 3) := by decide +kernel
theorem dX2_takeDigit_56 : decode cX2_takeDigit 56 = .ok (.aload_n 0, 1) := by decide +kernel
theorem dX2_takeDigit_57 : decode cX2_takeDigit 57 = .ok (.getfield 33, 3) := by decide +kernel
theorem dX2_takeDigit_60 : decode cX2_takeDigit 60 = .ok (.iconst 0, 1) := by decide +kernel
theorem dX2_takeDigit_61 : decode cX2_takeDigit 61 = .ok (.iastore, 1) := by decide +kernel
theorem dX2_takeDigit_62 : decode cX2_takeDigit 62 = .ok (.aload_n 0, 1) := by decide +kernel
theorem dX2_takeDigit_63 : decode cX2_takeDigit 63 = .ok (.getfield 29, 3) := by decide +kernel
theorem dX2_takeDigit_66 : decode cX2_takeDigit 66 = .ok (.aload_n 0, 1) := by decide +kernel
theorem dX2_takeDigit_67 : decode cX2_takeDigit 67 = .ok (.getfield 33, 3) := by decide +kernel
theorem dX2_takeDigit_70 : decode cX2_takeDigit 70 = .ok (.iload_n 1, 1) := by decide +kernel
theorem dX2_takeDigit_71 : decode cX2_takeDigit 71 = .ok (.bipush 10, 2) := by decide +kernel
theorem dX2_takeDigit_73 : decode cX2_takeDigit 73 = .ok (.if_icmp .ne 7, 3) := by decide +kernel
theorem dX2_takeDigit_76 : decode cX2_takeDigit 76 = .ok (.iconst 1, 1) := by decide +kernel
theorem dX2_takeDigit_77 : decode cX2_takeDigit 77 = .ok (.goto 4, 3) := by decide +kernel
theorem dX2_takeDigit_80 : decode cX2_takeDigit 80 = .ok (.iconst 0, 1) := by decide +kernel
theorem dX2_takeDigit_81 : decode cX2_takeDigit 81 = .ok (.bastore, 1) := by decide +kernel
theorem dX2_takeDigit_82 : decode cX2_takeDigit 82 = .ok (.aload_n 0, 1) := by decide +kernel
theorem dX2_takeDigit_83 : decode cX2_takeDigit 83 = .ok (.dup, 1) := by decide +kernel
theorem dX2_takeDigit_84 : decode cX2_takeDigit 84 = .ok (.getfield 33, 3) := by decide +kernel
theorem dX2_takeDigit_87 : decode cX2_takeDigit 87 = .ok (.iconst 1, 1) := by decide +kernel
theorem dX2_takeDigit_88 : decode cX2_takeDigit 88 = .ok (.iadd, 1) := by decide +kernel
theorem dX2_takeDigit_89 : decode cX2_takeDigit 89 = .ok (.putfield 33, 3) := by decide +kernel
theorem dX2_takeDigit_92 : decode cX2_takeDigit 92 = .ok (.goto 100, 3) := by decide +kernel
theorem dX2_takeDigit_95 : decode cX2_takeDigit 95 = .ok (.aload_n 0, 1) := by decide +kernel
theorem dX2_takeDigit_96 : decode cX2_takeDigit 96 = .ok (.getfield 33, 3) := by decide +kernel
theorem dX2_takeDigit_99 : decode cX2_takeDigit 99 = .ok (.ifCond .le 45, 3) := by decide +kernel
theorem dX2_takeDigit_102 : decode cX2_takeDigit 102 = .ok (.iload_n 1, 1) := by decide +kernel
theorem dX2_takeDigit_103 : decode cX2_takeDigit 103 = .ok (.iconst 2, 1) := by decide +kernel
theorem dX2_takeDigit_104 : decode cX2_takeDigit 104 = .ok (.if_icmp .eq 9, 3) := by decide +kernel
theorem dX2_takeDigit_107 : decode cX2_takeDigit 107 = .ok (.iload_n 1, 1) := by decide +kernel
theorem dX2_takeDigit_108 : decode cX2_takeDigit 108 = .ok (.bipush 11, 2) := by decide +kernel
theorem dX2_takeDigit_110 : decode cX2_takeDigit 110 = .ok (.if_icmp .ne 34, 3) := by decide +kernel
theorem dX2_takeDigit_113 : decode cX2_takeDigit 113 = .ok (.aload_n 0, 1) := by decide +kernel
theorem dX2_takeDigit_114 : decode cX2_takeDigit 114 = .ok (.getfield 19, 3) := by decide +kernel
theorem dX2_takeDigit_117 : decode cX2_takeDigit 117 = .ok (.aload_n 0, 1) := by decide +kernel
theorem dX2_takeDigit_118 : decode cX2_takeDigit 118 = .ok (.getfield 33, 3) := by decide +kernel
theorem dX2_takeDigit_121 : decode cX2_takeDigit 121 = .ok (.iconst 1, 1) := by decide +kernel
theorem dX2_takeDigit_122 : decode cX2_takeDigit 122 = .ok (.isub, 1) := by decide +kernel
theorem dX2_takeDigit_123 : decode cX2_takeDigit 123 = .ok (.bipush 10, 2) := by decide +kernel
theorem dX2_takeDigit_125 : decode cX2_takeDigit 125 = .ok (.aload_n 0, 1) := by decide +kernel
theorem dX2_takeDigit_126 : decode cX2_takeDigit 126 = .ok (.getfield 19, 3) := by decide +kernel
theorem dX2_takeDigit_129 : decode cX2_takeDigit 129 = .ok (.aload_n 0, 1) := by decide +kernel
theorem dX2_takeDigit_130 : decode cX2_takeDigit 130 = .ok (.getfield 33, 3) := by decide +kernel
theorem dX2_takeDigit_133 : decode cX2_takeDigit 133 = .ok (.iconst 1, 1) := by decide +kernel
theorem dX2_takeDigit_134 : decode cX2_takeDigit 134 = .ok (.isub, 1) := by decide +kernel
theorem dX2_takeDigit_135 : decode cX2_takeDigit 135 = .ok (.iaload, 1) := by decide +kernel
theorem dX2_takeDigit_136 : decode cX2_takeDigit 136 = .ok (.imul, 1) := by decide +kernel
theorem dX2_takeDigit_137 : decode cX2_takeDigit 137 = .ok (.iload 4, 2) := by decide +kernel
theorem dX2_takeDigit_139 : decode cX2_takeDigit 139 = .ok (.iadd, 1) := by decide +kernel
theorem dX2_takeDigit_140 : decode cX2_takeDigit 140 = .ok (.iastore, 1) := by decide +kernel
theorem dX2_takeDigit_141 : decode cX2_takeDigit 141 = .ok (.goto 51, 3) := by decide +kernel
theorem dX2_takeDigit_144 : decode cX2_takeDigit 144 = .ok (.aload_n 0, 1) := by decide +kernel
theorem dX2_takeDigit_145 : decode cX2_takeDigit 145 = .ok (.getfield 33, 3) := by decide +kernel
theorem dX2_takeDigit_148 : decode cX2_takeDigit 148 = .ok (.ifCond .le 44, 3) := by decide +kernel
theorem dX2_takeDigit_151 : decode cX2_takeDigit 151 = .ok (.iload_n 1, 1) := by decide +kernel
theorem dX2_takeDigit_152 : decode cX2_takeDigit 152 = .ok (.iconst 5, 1) := by decide +kernel
theorem dX2_takeDigit_153 : decode cX2_takeDigit 153 = .ok (.if_icmp .lt 39, 3) := by decide +kernel
theorem dX2_takeDigit_156 : decode cX2_takeDigit 156 = .ok (.iload_n 1, 1) := by decide +kernel
theorem dX2_takeDigit_157 : decode cX2_takeDigit 157 = .ok (.bipush 8, 2) := by decide +kernel
theorem dX2_takeDigit_159 : decode cX2_takeDigit 159 = .ok (.if_icmp .gt 33, 3) := by decide +kernel
theorem dX2_takeDigit_162 : decode cX2_takeDigit 162 = .ok (.aload_n 0, 1) := by decide +kernel
theorem dX2_takeDigit_163 : decode cX2_takeDigit 163 = .ok (.getfield 26, 3) := by decide +kernel
theorem dX2_takeDigit_166 : decode cX2_takeDigit 166 = .ok (.aload_n 0, 1) := by decide +kernel
theorem dX2_takeDigit_167 : decode cX2_takeDigit 167 = .ok (.getfield 33, 3) := by decide +kernel
theorem dX2_takeDigit_170 : decode cX2_takeDigit 170 = .ok (.iconst 1, 1) := by decide +kernel
theorem dX2_takeDigit_171 : decode cX2_takeDigit 171 = .ok (.isub, 1) := by decide +kernel
theorem dX2_takeDigit_172 : decode cX2_takeDigit 172 = .ok (.bipush 10, 2) := by decide +kernel
theorem dX2_takeDigit_174 : decode cX2_takeDigit 174 = .ok (.aload_n 0, 1) := by decide +kernel
theorem dX2_takeDigit_175 : decode cX2_takeDigit 175 = .ok (.getfield 26, 3) := by decide +kernel
theorem dX2_takeDigit_178 : decode cX2_takeDigit 178 = .ok (.aload_n 0, 1) := by decide +kernel
theorem dX2_takeDigit_179 : decode cX2_takeDigit 179 = .ok (.getfield 33, 3) := by decide +kernel
theorem dX2_takeDigit_182 : decode cX2_takeDigit 182 = .ok (.iconst 1, 1) := by decide +kernel
theorem dX2_takeDigit_183 : decode cX2_takeDigit 183 = .ok (.isub, 1) := by decide +kernel
theorem dX2_takeDigit_184 : decode cX2_takeDigit 184 = .ok (.iaload, 1) := by decide +kernel
theorem dX2_takeDigit_185 : decode cX2_takeDigit 185 = .ok (.imul, 1) := by decide +kernel
theorem dX2_takeDigit_186 : decode cX2_takeDigit 186 = .ok (.iload_n 3, 1) := by decide +kernel
theorem dX2_takeDigit_187 : decode cX2_takeDigit 187 = .ok (.iload 4, 2) := by decide +kernel
theorem dX2_takeDigit_189 : decode cX2_takeDigit 189 = .ok (.imul, 1) := by decide +kernel
theorem dX2_takeDigit_190 : decode cX2_takeDigit 190 = .ok (.iadd, 1) := by decide +kernel
theorem dX2_takeDigit_191 : decode cX2_takeDigit 191 = .ok (.iastore, 1) := by decide +kernel
theorem dX2_takeDigit_192 : decode cX2_takeDigit 192 = .ok (.return_, 1) := by decide +kernel
theorem dX2_placeOfGreatKey_0 : decode cX2_placeOfGreatKey 0 = .ok (.iconst 0, 1) := by decide +kernel
theorem dX2_placeOfGreatKey_1 : decode cX2_placeOfGreatKey 1 = .ok (.istore_n 1, 1) := by decide +kernel
theorem dX2_placeOfGreatKey_2 : decode cX2_placeOfGreatKey 2 = .ok (.iload_n 1, 1) := by decide +kernel
theorem dX2_placeOfGreatKey_3 : decode cX2_placeOfGreatKey 3 = .ok (.aload_n 0, 1) := by decide +kernel
theorem dX2_placeOfGreatKey_4 : decode cX2_placeOfGreatKey 4 = .ok (.getfield 33, 3) := by decide +kernel
theorem dX2_placeOfGreatKey_7 : decode cX2_placeOfGreatKey 7 = .ok (.if_icmp .ge 27, 3) := by decide +kernel
theorem dX2_placeOfGreatKey_10 : decode cX2_placeOfGreatKey 10 = .ok (.aload_n 0, 1) := by decide +kernel
theorem dX2_placeOfGreatKey_11 : decode cX2_placeOfGreatKey 11 = .ok (.getfield 19, 3) := by decide +kernel
theorem dX2_placeOfGreatKey_14 : decode cX2_placeOfGreatKey 14 = .ok (.iload_n 1, 1) := by decide +kernel
theorem dX2_placeOfGreatKey_15 : decode cX2_placeOfGreatKey 15 = .ok (.iaload, 1) := by decide +kernel
theorem dX2_placeOfGreatKey_16 : decode cX2_placeOfGreatKey 16 = .ok (.bipush 64, 2) := by decide +kernel
theorem dX2_placeOfGreatKey_18 : decode cX2_placeOfGreatKey 18 = .ok (.if_icmp .lt 10, 3) := by decide +kernel
theorem dX2_placeOfGreatKey_21 : decode cX2_placeOfGreatKey 21 = .ok (.aload_n 0, 1) := by decide +kernel
theorem dX2_placeOfGreatKey_22 : decode cX2_placeOfGreatKey 22 = .ok (.getfield 23, 3) := by decide +kernel
theorem dX2_placeOfGreatKey_25 : decode cX2_placeOfGreatKey 25 = .ok (.iload_n 1, 1) := by decide +kernel
theorem dX2_placeOfGreatKey_26 : decode cX2_placeOfGreatKey 26 = .ok (.iaload, 1) := by decide +kernel
theorem dX2_placeOfGreatKey_27 : decode cX2_placeOfGreatKey 27 = .ok (.ireturn, 1) := by decide +kernel
theorem dX2_placeOfGreatKey_28 : decode cX2_placeOfGreatKey 28 = .ok (.iinc 1 1, 3) := by decide +kernel
theorem dX2_placeOfGreatKey_31 : decode cX2_placeOfGreatKey 31 = .ok (.goto (-29), 3) := by decide +kernel
theorem dX2_placeOfGreatKey_34 : decode cX2_placeOfGreatKey 34 = .ok (.iconst (-1), 1) := by decide +kernel
theorem dX2_placeOfGreatKey_35 : decode cX2_placeOfGreatKey 35 = .ok (.ireturn, 1) := by decide +kernel
set_option maxRecDepth 20000 in
theorem ggX2_enter_X0_drop : GoodIn wsX2_enter wsX0_drop := goodIn_r _ [9, 10, 11, 12, 13, 14, 28, 29, 30] (by decide +kernel) (by decide +kernel)
set_option maxRecDepth 20000 in
theorem gX2_enter_X0_drop : GoodIn wsX2_enter (wsV RX2 60 RX0 yX0_drop wsX0_drop) := goodIn_app (goodIn_of _ (by decide +kernel)) ggX2_enter_X0_drop
set_option maxRecDepth 20000 in
theorem ggX2_enter_X0_renew : GoodIn wsX2_enter wsX0_renew := goodIn_r _ [18, 10, 11, 19, 20, 12, 13, 14, 28, 29, 30] (by decide +kernel) (by decide +kernel)
set_option maxRecDepth 20000 in
theorem gX2_enter_X0_renew : GoodIn wsX2_enter (wsV RX2 66 RX0 yX0_renew wsX0_renew) := goodIn_app (goodIn_of _ (by decide +kernel)) ggX2_enter_X0_renew
theorem dX2_enter_0 : decode cX2_enter 0 = .ok (.iconst 0, 1) := by decide +kernel
theorem dX2_enter_1 : decode cX2_enter 1 = .ok (.istore_n 2, 1) := by decide +kernel
theorem dX2_enter_2 : decode cX2_enter 2 = .ok (.iload_n 2, 1) := by decide +kernel
theorem dX2_enter_3 : decode cX2_enter 3 = .ok (.aload_n 0, 1) := by decide +kernel
theorem dX2_enter_4 : decode cX2_enter 4 = .ok (.getfield 33, 3) := by decide +kernel
theorem dX2_enter_7 : decode cX2_enter 7 = .ok (.if_icmp .ge 47, 3) := by decide +kernel
theorem dX2_enter_10 : decode cX2_enter 10 = .ok (.aload_n 0, 1) := by decide +kernel
theorem dX2_enter_11 : decode cX2_enter 11 = .ok (.getfield 29, 3) := by decide +kernel
theorem dX2_enter_14 : decode cX2_enter 14 = .ok (.iload_n 2, 1) := by decide +kernel
theorem dX2_enter_15 : decode cX2_enter 15 = .ok (.baload, 1) := by decide +kernel
theorem dX2_enter_16 : decode cX2_enter 16 = .ok (.ifCond .eq 16, 3) := by decide +kernel
theorem dX2_enter_19 : decode cX2_enter 19 = .ok (.aload_n 1, 1) := by decide +kernel
theorem dX2_enter_20 : decode cX2_enter 20 = .ok (.aload_n 0, 1) := by decide +kernel
theorem dX2_enter_21 : decode cX2_enter 21 = .ok (.getfield 19, 3) := by decide +kernel
theorem dX2_enter_24 : decode cX2_enter 24 = .ok (.iload_n 2, 1) := by decide +kernel
theorem dX2_enter_25 : decode cX2_enter 25 = .ok (.iaload, 1) := by decide +kernel
theorem dX2_enter_26 : decode cX2_enter 26 = .ok (.invokevirtual 60, 3) := by decide +kernel
theorem dX2_enter_29 : decode cX2_enter 29 = .ok (.goto 19, 3) := by decide +kernel
theorem dX2_enter_32 : decode cX2_enter 32 = .ok (.aload_n 1, 1) := by decide +kernel
theorem dX2_enter_33 : decode cX2_enter 33 = .ok (.aload_n 0, 1) := by decide +kernel
theorem dX2_enter_34 : decode cX2_enter 34 = .ok (.getfield 19, 3) := by decide +kernel
theorem dX2_enter_37 : decode cX2_enter 37 = .ok (.iload_n 2, 1) := by decide +kernel
theorem dX2_enter_38 : decode cX2_enter 38 = .ok (.iaload, 1) := by decide +kernel
theorem dX2_enter_39 : decode cX2_enter 39 = .ok (.aload_n 0, 1) := by decide +kernel
theorem dX2_enter_40 : decode cX2_enter 40 = .ok (.getfield 26, 3) := by decide +kernel
theorem dX2_enter_43 : decode cX2_enter 43 = .ok (.iload_n 2, 1) := by decide +kernel
theorem dX2_enter_44 : decode cX2_enter 44 = .ok (.iaload, 1) := by decide +kernel
theorem dX2_enter_45 : decode cX2_enter 45 = .ok (.invokevirtual 66, 3) := by decide +kernel
theorem dX2_enter_48 : decode cX2_enter 48 = .ok (.iinc 2 1, 3) := by decide +kernel
theorem dX2_enter_51 : decode cX2_enter 51 = .ok (.goto (-49), 3) := by decide +kernel
theorem dX2_enter_54 : decode cX2_enter 54 = .ok (.return_, 1) := by decide +kernel
theorem dX3_init_0 : decode cX3_init 0 = .ok (.aload_n 0, 1) := by decide +kernel
theorem dX3_init_1 : decode cX3_init 1 = .ok (.invokespecial 3, 3) := by decide +kernel
theorem dX3_init_4 : decode cX3_init 4 = .ok (.aload_n 0, 1) := by decide +kernel
theorem dX3_init_5 : decode cX3_init 5 = .ok (.bipush 8, 2) := by decide +kernel
theorem dX3_init_7 : decode cX3_init 7 = .ok (.iconst 4, 1) := by decide +kernel
theorem dX3_init_8 : decode cX3_init 8 = .ok (.multianewarray 9 2, 4) := by decide +kernel
theorem dX3_init_12 : decode cX3_init 12 = .ok (.putfield 11, 3) := by decide +kernel
theorem dX3_init_15 : decode cX3_init 15 = .ok (.aload_n 0, 1) := by decide +kernel
theorem dX3_init_16 : decode cX3_init 16 = .ok (.iconst 0, 1) := by decide +kernel
theorem dX3_init_17 : decode cX3_init 17 = .ok (.putfield 16, 3) := by decide +kernel
theorem dX3_init_20 : decode cX3_init 20 = .ok (.return_, 1) := by decide +kernel
theorem dX3_append_0 : decode cX3_append 0 = .ok (.bipush 7, 2) := by decide +kernel
theorem dX3_append_2 : decode cX3_append 2 = .ok (.istore 5, 2) := by decide +kernel
theorem dX3_append_4 : decode cX3_append 4 = .ok (.iload 5, 2) := by decide +kernel
theorem dX3_append_6 : decode cX3_append 6 = .ok (.ifCond .le 31, 3) := by decide +kernel
theorem dX3_append_9 : decode cX3_append 9 = .ok (.aload_n 0, 1) := by decide +kernel
theorem dX3_append_10 : decode cX3_append 10 = .ok (.getfield 11, 3) := by decide +kernel
theorem dX3_append_13 : decode cX3_append 13 = .ok (.iload 5, 2) := by decide +kernel
theorem dX3_append_15 : decode cX3_append 15 = .ok (.iconst 1, 1) := by decide +kernel
theorem dX3_append_16 : decode cX3_append 16 = .ok (.isub, 1) := by decide +kernel
theorem dX3_append_17 : decode cX3_append 17 = .ok (.aaload, 1) := by decide +kernel
theorem dX3_append_18 : decode cX3_append 18 = .ok (.iconst 0, 1) := by decide +kernel
theorem dX3_append_19 : decode cX3_append 19 = .ok (.aload_n 0, 1) := by decide +kernel
theorem dX3_append_20 : decode cX3_append 20 = .ok (.getfield 11, 3) := by decide +kernel
theorem dX3_append_23 : decode cX3_append 23 = .ok (.iload 5, 2) := by decide +kernel
theorem dX3_append_25 : decode cX3_append 25 = .ok (.aaload, 1) := by decide +kernel
theorem dX3_append_26 : decode cX3_append 26 = .ok (.iconst 0, 1) := by decide +kernel
theorem dX3_append_27 : decode cX3_append 27 = .ok (.iconst 4, 1) := by decide +kernel
theorem dX3_append_28 : decode cX3_append 28 = .ok (.invokestatic 20, 3) := by decide +kernel
theorem dX3_append_31 : decode cX3_append 31 = .ok (.iinc 5 (-1), 3) := by decide +kernel
theorem dX3_append_34 : decode cX3_append 34 = .ok (.goto (-30), 3) := by decide +kernel
theorem dX3_append_37 : decode cX3_append 37 = .ok (.aload_n 0, 1) := by decide +kernel
theorem dX3_append_38 : decode cX3_append 38 = .ok (.getfield 11, 3) := by decide +kernel
theorem dX3_append_41 : decode cX3_append 41 = .ok (.iconst 0, 1) := by decide +kernel
theorem dX3_append_42 : decode cX3_append 42 = .ok (.aaload, 1) := by decide +kernel
theorem dX3_append_43 : decode cX3_append 43 = .ok (.iconst 0, 1) := by decide +kernel
theorem dX3_append_44 : decode cX3_append 44 = .ok (.iload_n 1, 1) := by decide +kernel
theorem dX3_append_45 : decode cX3_append 45 = .ok (.iastore, 1) := by decide +kernel
theorem dX3_append_46 : decode cX3_append 46 = .ok (.aload_n 0, 1) := by decide +kernel
theorem dX3_append_47 : decode cX3_append 47 = .ok (.getfield 11, 3) := by decide +kernel
theorem dX3_append_50 : decode cX3_append 50 = .ok (.iconst 0, 1) := by decide +kernel
theorem dX3_append_51 : decode cX3_append 51 = .ok (.aaload, 1) := by decide +kernel
theorem dX3_append_52 : decode cX3_append 52 = .ok (.iconst 1, 1) := by decide +kernel
theorem dX3_append_53 : decode cX3_append 53 = .ok (.iload_n 2, 1) := by decide +kernel
theorem dX3_append_54 : decode cX3_append 54 = .ok (.iastore, 1) := by decide +kernel
theorem dX3_append_55 : decode cX3_append 55 = .ok (.aload_n 0, 1) := by decide +kernel
theorem dX3_append_56 : decode cX3_append 56 = .ok (.getfield 11, 3) := by decide +kernel
theorem dX3_append_59 : decode cX3_append 59 = .ok (.iconst 0, 1) := by decide +kernel
theorem dX3_append_60 : decode cX3_append 60 = .ok (.aaload, 1) := by decide +kernel
theorem dX3_append_61 : decode cX3_append 61 = .ok (.iconst 2, 1) := by decide +kernel
theorem dX3_append_62 : decode cX3_append 62 = .ok (.iload_n 3, 1) := by decide +kernel
theorem dX3_append_63 : decode cX3_append 63 = .ok (.iastore, 1) := by decide +kernel
theorem dX3_append_64 : decode cX3_append 64 = .ok (.aload_n 0, 1) := by decide +kernel
theorem dX3_append_65 : decode cX3_append 65 = .ok (.getfield 11, 3) := by decide +kernel
theorem dX3_append_68 : decode cX3_append 68 = .ok (.iconst 0, 1) := by decide +kernel
theorem dX3_append_69 : decode cX3_append 69 = .ok (.aaload, 1) := by decide +kernel
theorem dX3_append_70 : decode cX3_append 70 = .ok (.iconst 3, 1) := by decide +kernel
theorem dX3_append_71 : decode cX3_append 71 = .ok (.iload 4, 2) := by decide +kernel
theorem dX3_append_73 : decode cX3_append 73 = .ok (.iastore, 1) := by decide +kernel
theorem dX3_append_74 : decode cX3_append 74 = .ok (.aload_n 0, 1) := by decide +kernel
theorem dX3_append_75 : decode cX3_append 75 = .ok (.getfield 16, 3) := by decide +kernel
theorem dX3_append_78 : decode cX3_append 78 = .ok (.bipush 8, 2) := by decide +kernel
theorem dX3_append_80 : decode cX3_append 80 = .ok (.if_icmp .ge 13, 3) := by decide +kernel
theorem dX3_append_83 : decode cX3_append 83 = .ok (.aload_n 0, 1) := by decide +kernel
theorem dX3_append_84 : decode cX3_append 84 = .ok (.dup, 1) := by decide +kernel
theorem dX3_append_85 : decode cX3_append 85 = .ok (.getfield 16, 3) := by decide +kernel
theorem dX3_append_88 : decode cX3_append 88 = .ok (.iconst 1, 1) := by decide +kernel
theorem dX3_append_89 : decode cX3_append 89 = .ok (.iadd, 1) := by decide +kernel
theorem dX3_append_90 : decode cX3_append 90 = .ok (.putfield 16, 3) := by decide +kernel
theorem dX3_append_93 : decode cX3_append 93 = .ok (.return_, 1) := by decide +kernel
theorem dX4_init_0 : decode cX4_init 0 = .ok (.aload_n 0, 1) := by decide +kernel
theorem dX4_init_1 : decode cX4_init 1 = .ok (.invokespecial 3, 3) := by decide +kernel
theorem dX4_init_4 : decode cX4_init 4 = .ok (.aload_n 0, 1) := by decide +kernel
theorem dX4_init_5 : decode cX4_init 5 = .ok (.sipush 960, 3) := by decide +kernel
theorem dX4_init_8 : decode cX4_init 8 = .ok (.newarray .char, 2) := by decide +kernel
theorem dX4_init_10 : decode cX4_init 10 = .ok (.putfield 11, 3) := by decide +kernel
theorem dX4_init_13 : decode cX4_init 13 = .ok (.aload_n 0, 1) := by decide +kernel
theorem dX4_init_14 : decode cX4_init 14 = .ok (.bipush 10, 2) := by decide +kernel
theorem dX4_init_16 : decode cX4_init 16 = .ok (.newarray .char, 2) := by decide +kernel
theorem dX4_init_18 : decode cX4_init 18 = .ok (.putfield 15, 3) := by decide +kernel
theorem dX4_init_21 : decode cX4_init 21 = .ok (.aload_n 0, 1) := by decide +kernel
theorem dX4_init_22 : decode cX4_init 22 = .ok (.iconst 0, 1) := by decide +kernel
theorem dX4_init_23 : decode cX4_init 23 = .ok (.putfield 18, 3) := by decide +kernel
theorem dX4_init_26 : decode cX4_init 26 = .ok (.return_, 1) := by decide +kernel
theorem dX4_append_0 : decode cX4_append 0 = .ok (.aload_n 0, 1) := by decide +kernel
theorem dX4_append_1 : decode cX4_append 1 = .ok (.getfield 18, 3) := by decide +kernel
theorem dX4_append_4 : decode cX4_append 4 = .ok (.aload_n 0, 1) := by decide +kernel
theorem dX4_append_5 : decode cX4_append 5 = .ok (.getfield 11, 3) := by decide +kernel
theorem dX4_append_8 : decode cX4_append 8 = .ok (.arraylength, 1) := by decide +kernel
theorem dX4_append_9 : decode cX4_append 9 = .ok (.if_icmp .ge 23, 3) := by decide +kernel
theorem dX4_append_12 : decode cX4_append 12 = .ok (.aload_n 0, 1) := by decide +kernel
theorem dX4_append_13 : decode cX4_append 13 = .ok (.getfield 11, 3) := by decide +kernel
theorem dX4_append_16 : decode cX4_append 16 = .ok (.aload_n 0, 1) := by decide +kernel
theorem dX4_append_17 : decode cX4_append 17 = .ok (.getfield 18, 3) := by decide +kernel
theorem dX4_append_20 : decode cX4_append 20 = .ok (.iload_n 1, 1) := by decide +kernel
theorem dX4_append_21 : decode cX4_append 21 = .ok (.castore, 1) := by decide +kernel
theorem dX4_append_22 : decode cX4_append 22 = .ok (.aload_n 0, 1) := by decide +kernel
theorem dX4_append_23 : decode cX4_append 23 = .ok (.dup, 1) := by decide +kernel
theorem dX4_append_24 : decode cX4_append 24 = .ok (.getfield 18, 3) := by decide +kernel
theorem dX4_append_27 : decode cX4_append 27 = .ok (.iconst 1, 1) := by decide +kernel
theorem dX4_append_28 : decode cX4_append 28 = .ok (.iadd, 1) := by decide +kernel
theorem dX4_append_29 : decode cX4_append 29 = .ok (.putfield 18, 3) := by decide +kernel
theorem dX4_append_32 : decode cX4_append 32 = .ok (.return_, 1) := by decide +kernel
set_option maxRecDepth 20000 in
theorem ggX4_appendComma_X4_append : GoodIn wsX4_appendComma wsX4_append := goodIn_r _ [6, 1, 7, 8, 9, 10] (by decide +kernel) (by decide +kernel)
set_option maxRecDepth 20000 in
theorem gX4_appendComma_X4_append : GoodIn wsX4_appendComma (wsV RX4 22 RX4 yX4_append wsX4_append) := goodIn_app (goodIn_of _ (by decide +kernel)) ggX4_appendComma_X4_append
theorem dX4_appendComma_0 : decode cX4_appendComma 0 = .ok (.aload_n 0, 1) := by decide +kernel
theorem dX4_appendComma_1 : decode cX4_appendComma 1 = .ok (.getfield 18, 3) := by decide +kernel
theorem dX4_appendComma_4 : decode cX4_appendComma 4 = .ok (.ifCond .le 9, 3) := by decide +kernel
theorem dX4_appendComma_7 : decode cX4_appendComma 7 = .ok (.aload_n 0, 1) := by decide +kernel
theorem dX4_appendComma_8 : decode cX4_appendComma 8 = .ok (.bipush 44, 2) := by decide +kernel
theorem dX4_appendComma_10 : decode cX4_appendComma 10 = .ok (.invokevirtual 22, 3) := by decide +kernel
theorem dX4_appendComma_13 : decode cX4_appendComma 13 = .ok (.return_, 1) := by decide +kernel
set_option maxRecDepth 20000 in
theorem ggX4_appendNumber_X4_append : GoodIn wsX4_appendNumber wsX4_append := goodIn_r _ [8, 9, 10, 11, 12, 13] (by decide +kernel) (by decide +kernel)
set_option maxRecDepth 20000 in
theorem gX4_appendNumber_X4_append : GoodIn wsX4_appendNumber (wsV RX4 22 RX4 yX4_append wsX4_append) := goodIn_app (goodIn_of _ (by decide +kernel)) ggX4_appendNumber_X4_append
theorem dX4_appendNumber_0 : decode cX4_appendNumber 0 = .ok (.iload_n 1, 1) := by decide +kernel
theorem dX4_appendNumber_1 : decode cX4_appendNumber 1 = .ok (.i2l, 1) := by decide +kernel
theorem dX4_appendNumber_2 : decode cX4_appendNumber 2 = .ok (.lstore_n 2, 1) := by decide +kernel
theorem dX4_appendNumber_3 : decode cX4_appendNumber 3 = .ok (.lload_n 2, 1) := by decide +kernel
theorem dX4_appendNumber_4 : decode cX4_appendNumber 4 = .ok (.lconst 0, 1) := by decide +kernel
theorem dX4_appendNumber_5 : decode cX4_appendNumber 5 = .ok (.lcmp, 1) := by decide +kernel
theorem dX4_appendNumber_6 : decode cX4_appendNumber 6 = .ok (.ifCond .ge 12, 3) := by decide +kernel
theorem dX4_appendNumber_9 : decode cX4_appendNumber 9 = .ok (.aload_n 0, 1) := by decide +kernel
theorem dX4_appendNumber_10 : decode cX4_appendNumber 10 = .ok (.bipush 45, 2) := by decide +kernel
theorem dX4_appendNumber_12 : decode cX4_appendNumber 12 = .ok (.invokevirtual 22, 3) := by decide +kernel
theorem dX4_appendNumber_15 : decode cX4_appendNumber 15 = .ok (.lload_n 2, 1) := by decide +kernel
theorem dX4_appendNumber_16 : decode cX4_appendNumber 16 = .ok (.lneg, 1) := by decide +kernel
theorem dX4_appendNumber_17 : decode cX4_appendNumber 17 = .ok (.lstore_n 2, 1) := by decide +kernel
theorem dX4_appendNumber_18 : decode cX4_appendNumber 18 = .ok (.iconst 0, 1) := by decide +kernel
theorem dX4_appendNumber_19 : decode cX4_appendNumber 19 = .ok (.istore 4, 2) := by decide +kernel
theorem dX4_appendNumber_21 : decode cX4_appendNumber 21 = .ok (.aload_n 0, 1) := by decide +kernel
theorem dX4_appendNumber_22 : decode cX4_appendNumber 22 = .ok (.getfield 15, 3) := by decide +kernel
theorem dX4_appendNumber_25 : decode cX4_appendNumber 25 = .ok (.iload 4, 2) := by decide +kernel
theorem dX4_appendNumber_27 : decode cX4_appendNumber 27 = .ok (.ldc2_w 26, 3) := by decide +kernel
theorem dX4_appendNumber_30 : decode cX4_appendNumber 30 = .ok (.lload_n 2, 1) := by decide +kernel
theorem dX4_appendNumber_31 : decode cX4_appendNumber 31 = .ok (.ldc2_w 28, 3) := by decide +kernel
theorem dX4_appendNumber_34 : decode cX4_appendNumber 34 = .ok (.lrem, 1) := by decide +kernel
theorem dX4_appendNumber_35 : decode cX4_appendNumber 35 = .ok (.ladd, 1) := by decide +kernel
theorem dX4_appendNumber_36 : decode cX4_appendNumber 36 = .ok (.l2i, 1) := by decide +kernel
theorem dX4_appendNumber_37 : decode cX4_appendNumber 37 = .ok (.i2c, 1) := by decide +kernel
theorem dX4_appendNumber_38 : decode cX4_appendNumber 38 = .ok (.castore, 1) := by decide +kernel
theorem dX4_appendNumber_39 : decode cX4_appendNumber 39 = .ok (.lload_n 2, 1) := by decide +kernel
theorem dX4_appendNumber_40 : decode cX4_appendNumber 40 = .ok (.ldc2_w 28, 3) := by decide +kernel
theorem dX4_appendNumber_43 : decode cX4_appendNumber 43 = .ok (.ldiv, 1) := by decide +kernel
theorem dX4_appendNumber_44 : decode cX4_appendNumber 44 = .ok (.lstore_n 2, 1) := by decide +kernel
theorem dX4_appendNumber_45 : decode cX4_appendNumber 45 = .ok (.iinc 4 1, 3) := by decide +kernel
theorem dX4_appendNumber_48 : decode cX4_appendNumber 48 = .ok (.lload_n 2, 1) := by decide +kernel
theorem dX4_appendNumber_49 : decode cX4_appendNumber 49 = .ok (.lconst 0, 1) := by decide +kernel
theorem dX4_appendNumber_50 : decode cX4_appendNumber 50 = .ok (.lcmp, 1) := by decide +kernel
theorem dX4_appendNumber_51 : decode cX4_appendNumber 51 = .ok (.ifCond .le 10, 3) := by decide +kernel
theorem dX4_appendNumber_54 : decode cX4_appendNumber 54 = .ok (.iload 4, 2) := by decide +kernel
theorem dX4_appendNumber_56 : decode cX4_appendNumber 56 = .ok (.bipush 10, 2) := by decide +kernel
theorem dX4_appendNumber_58 : decode cX4_appendNumber 58 = .ok (.if_icmp .lt (-37), 3) := by decide +kernel
theorem dX4_appendNumber_61 : decode cX4_appendNumber 61 = .ok (.iload 4, 2) := by decide +kernel
theorem dX4_appendNumber_63 : decode cX4_appendNumber 63 = .ok (.iconst 1, 1) := by decide +kernel
theorem dX4_appendNumber_64 : decode cX4_appendNumber 64 = .ok (.isub, 1) := by decide +kernel
theorem dX4_appendNumber_65 : decode cX4_appendNumber 65 = .ok (.istore 5, 2) := by decide +kernel
theorem dX4_appendNumber_67 : decode cX4_appendNumber 67 = .ok (.iload 5, 2) := by decide +kernel
theorem dX4_appendNumber_69 : decode cX4_appendNumber 69 = .ok (.ifCond .lt 20, 3) := by decide +kernel
theorem dX4_appendNumber_72 : decode cX4_appendNumber 72 = .ok (.aload_n 0, 1) := by decide +kernel
theorem dX4_appendNumber_73 : decode cX4_appendNumber 73 = .ok (.aload_n 0, 1) := by decide +kernel
theorem dX4_appendNumber_74 : decode cX4_appendNumber 74 = .ok (.getfield 15, 3) := by decide +kernel
theorem dX4_appendNumber_77 : decode cX4_appendNumber 77 = .ok (.iload 5, 2) := by decide +kernel
theorem dX4_appendNumber_79 : decode cX4_appendNumber 79 = .ok (.caload, 1) := by decide +kernel
theorem dX4_appendNumber_80 : decode cX4_appendNumber 80 = .ok (.invokevirtual 22, 3) := by decide +kernel
theorem dX4_appendNumber_83 : decode cX4_appendNumber 83 = .ok (.iinc 5 (-1), 3) := by decide +kernel
theorem dX4_appendNumber_86 : decode cX4_appendNumber 86 = .ok (.goto (-19), 3) := by decide +kernel
theorem dX4_appendNumber_89 : decode cX4_appendNumber 89 = .ok (.return_, 1) := by decide +kernel
set_option maxRecDepth 20000 in
theorem ggX4_appendRecord_X4_appendComma : GoodIn wsX4_appendRecord wsX4_appendComma := goodIn_r _ [5, 6, 7, 8, 9, 4, 10, 11, 19, 20, 21] (by decide +kernel) (by decide +kernel)
set_option maxRecDepth 20000 in
theorem gX4_appendRecord_X4_appendComma : GoodIn wsX4_appendRecord (wsV RX4 30 RX4 yX4_appendComma wsX4_appendComma) := goodIn_app (goodIn_of _ (by decide +kernel)) ggX4_appendRecord_X4_appendComma
set_option maxRecDepth 20000 in
theorem ggX4_appendRecord_X4_appendNumber : GoodIn wsX4_appendRecord wsX4_appendNumber := goodIn_r _ [15, 16, 17, 18, 7, 8, 9, 4, 10, 6, 11, 19, 20, 21] (by decide +kernel) (by decide +kernel)
set_option maxRecDepth 20000 in
theorem gX4_appendRecord_X4_appendNumber : GoodIn wsX4_appendRecord (wsV RX4 33 RX4 yX4_appendNumber wsX4_appendNumber) := goodIn_app (goodIn_of _ (by decide +kernel)) ggX4_appendRecord_X4_appendNumber
set_option maxRecDepth 20000 in
theorem ggX4_appendRecord_X4_append : GoodIn wsX4_appendRecord wsX4_append := goodIn_r _ [10, 6, 11, 19, 20, 21] (by decide +kernel) (by decide +kernel)
set_option maxRecDepth 20000 in
theorem gX4_appendRecord_X4_append : GoodIn wsX4_appendRecord (wsV RX4 22 RX4 yX4_append wsX4_append) := goodIn_app (goodIn_of _ (by decide +kernel)) ggX4_appendRecord_X4_append
theorem dX4_appendRecord_0 : decode cX4_appendRecord 0 = .ok (.aload_n 0, 1) := by decide +kernel
theorem dX4_appendRecord_1 : decode cX4_appendRecord 1 = .ok (.invokevirtual 30, 3) := by decide +kernel
theorem dX4_appendRecord_4 : decode cX4_appendRecord 4 = .ok (.aload_n 0, 1) := by decide +kernel
theorem dX4_appendRecord_5 : decode cX4_appendRecord 5 = .ok (.iload_n 1, 1) := by decide +kernel
theorem dX4_appendRecord_6 : decode cX4_appendRecord 6 = .ok (.invokevirtual 33, 3) := by decide +kernel
theorem dX4_appendRecord_9 : decode cX4_appendRecord 9 = .ok (.aload_n 0, 1) := by decide +kernel
theorem dX4_appendRecord_10 : decode cX4_appendRecord 10 = .ok (.bipush 61, 2) := by decide +kernel
theorem dX4_appendRecord_12 : decode cX4_appendRecord 12 = .ok (.invokevirtual 22, 3) := by decide +kernel
theorem dX4_appendRecord_15 : decode cX4_appendRecord 15 = .ok (.aload_n 0, 1) := by decide +kernel
theorem dX4_appendRecord_16 : decode cX4_appendRecord 16 = .ok (.iload_n 2, 1) := by decide +kernel
theorem dX4_appendRecord_17 : decode cX4_appendRecord 17 = .ok (.invokevirtual 33, 3) := by decide +kernel
theorem dX4_appendRecord_20 : decode cX4_appendRecord 20 = .ok (.return_, 1) := by decide +kernel
set_option maxRecDepth 20000 in
theorem ggX4_appendRemoval_X4_appendComma : GoodIn wsX4_appendRemoval wsX4_appendComma := goodIn_r _ [5, 6, 7, 8, 9, 4, 10, 11, 19, 20, 21] (by decide +kernel) (by decide +kernel)
set_option maxRecDepth 20000 in
theorem gX4_appendRemoval_X4_appendComma : GoodIn wsX4_appendRemoval (wsV RX4 30 RX4 yX4_appendComma wsX4_appendComma) := goodIn_app (goodIn_of _ (by decide +kernel)) ggX4_appendRemoval_X4_appendComma
set_option maxRecDepth 20000 in
theorem ggX4_appendRemoval_X4_append : GoodIn wsX4_appendRemoval wsX4_append := goodIn_r _ [10, 6, 11, 19, 20, 21] (by decide +kernel) (by decide +kernel)
set_option maxRecDepth 20000 in
theorem gX4_appendRemoval_X4_append : GoodIn wsX4_appendRemoval (wsV RX4 22 RX4 yX4_append wsX4_append) := goodIn_app (goodIn_of _ (by decide +kernel)) ggX4_appendRemoval_X4_append
set_option maxRecDepth 20000 in
theorem ggX4_appendRemoval_X4_appendNumber : GoodIn wsX4_appendRemoval wsX4_appendNumber := goodIn_r _ [15, 16, 17, 18, 7, 8, 9, 4, 10, 6, 11, 19, 20, 21] (by decide +kernel) (by decide +kernel)
set_option maxRecDepth 20000 in
theorem gX4_appendRemoval_X4_appendNumber : GoodIn wsX4_appendRemoval (wsV RX4 33 RX4 yX4_appendNumber wsX4_appendNumber) := goodIn_app (goodIn_of _ (by decide +kernel)) ggX4_appendRemoval_X4_appendNumber
theorem dX4_appendRemoval_0 : decode cX4_appendRemoval 0 = .ok (.aload_n 0, 1) := by decide +kernel
theorem dX4_appendRemoval_1 : decode cX4_appendRemoval 1 = .ok (.invokevirtual 30, 3) := by decide +kernel
theorem dX4_appendRemoval_4 : decode cX4_appendRemoval 4 = .ok (.aload_n 0, 1) := by decide +kernel
theorem dX4_appendRemoval_5 : decode cX4_appendRemoval 5 = .ok (.bipush 45, 2) := by decide +kernel
theorem dX4_appendRemoval_7 : decode cX4_appendRemoval 7 = .ok (.invokevirtual 22, 3) := by decide +kernel
theorem dX4_appendRemoval_10 : decode cX4_appendRemoval 10 = .ok (.aload_n 0, 1) := by decide +kernel
theorem dX4_appendRemoval_11 : decode cX4_appendRemoval 11 = .ok (.iload_n 1, 1) := by decide +kernel
theorem dX4_appendRemoval_12 : decode cX4_appendRemoval 12 = .ok (.invokevirtual 33, 3) := by decide +kernel
theorem dX4_appendRemoval_15 : decode cX4_appendRemoval 15 = .ok (.return_, 1) := by decide +kernel
theorem dX5_init_0 : decode cX5_init 0 = .ok (.aload_n 0, 1) := by decide +kernel
theorem dX5_init_1 : decode cX5_init 1 = .ok (.invokespecial 3, 3) := by decide +kernel
theorem dX5_init_4 : decode cX5_init 4 = .ok (.aload_n 0, 1) := by decide +kernel
theorem dX5_init_5 : decode cX5_init 5 = .ok (.iconst (-1), 1) := by decide +kernel
theorem dX5_init_6 : decode cX5_init 6 = .ok (.putfield 9, 3) := by decide +kernel
theorem dX5_init_9 : decode cX5_init 9 = .ok (.aload_n 0, 1) := by decide +kernel
theorem dX5_init_10 : decode cX5_init 10 = .ok (.iconst 0, 1) := by decide +kernel
theorem dX5_init_11 : decode cX5_init 11 = .ok (.putfield 15, 3) := by decide +kernel
theorem dX5_init_14 : decode cX5_init 14 = .ok (.aload_n 0, 1) := by decide +kernel
theorem dX5_init_15 : decode cX5_init 15 = .ok (.iconst 0, 1) := by decide +kernel
theorem dX5_init_16 : decode cX5_init 16 = .ok (.putfield 18, 3) := by decide +kernel
theorem dX5_init_19 : decode cX5_init 19 = .ok (.return_, 1) := by decide +kernel
theorem dX5_start_0 : decode cX5_start 0 = .ok (.aload_n 0, 1) := by decide +kernel
theorem dX5_start_1 : decode cX5_start 1 = .ok (.iload_n 1, 1) := by decide +kernel
theorem dX5_start_2 : decode cX5_start 2 = .ok (.putfield 9, 3) := by decide +kernel
theorem dX5_start_5 : decode cX5_start 5 = .ok (.aload_n 0, 1) := by decide +kernel
theorem dX5_start_6 : decode cX5_start 6 = .ok (.iconst 0, 1) := by decide +kernel
theorem dX5_start_7 : decode cX5_start 7 = .ok (.putfield 15, 3) := by decide +kernel
theorem dX5_start_10 : decode cX5_start 10 = .ok (.aload_n 0, 1) := by decide +kernel
theorem dX5_start_11 : decode cX5_start 11 = .ok (.iconst 0, 1) := by decide +kernel
theorem dX5_start_12 : decode cX5_start 12 = .ok (.putfield 18, 3) := by decide +kernel
theorem dX5_start_15 : decode cX5_start 15 = .ok (.return_, 1) := by decide +kernel
set_option maxRecDepth 20000 in
theorem ggX5_write_X1_writeWhole : GoodIn wsX5_write wsX1_writeWhole := goodIn_r _ [8, 9, 10, 11, 12, 13, 14, 15, 16, 17, 7, 18, 26, 27] (by decide +kernel) (by decide +kernel)
set_option maxRecDepth 20000 in
theorem gX5_write_X1_writeWhole : GoodIn wsX5_write (wsV RX5 21 RX1 yX1_writeWhole wsX1_writeWhole) := goodIn_app (goodIn_of _ (by decide +kernel)) ggX5_write_X1_writeWhole
set_option maxRecDepth 20000 in
theorem ggX5_write_X1_writePart : GoodIn wsX5_write wsX1_writePart := goodIn_r _ [22, 9, 10, 11, 12, 13, 14, 26, 27] (by decide +kernel) (by decide +kernel)
set_option maxRecDepth 20000 in
theorem gX5_write_X1_writePart : GoodIn wsX5_write (wsV RX5 27 RX1 yX1_writePart wsX1_writePart) := goodIn_app (goodIn_of _ (by decide +kernel)) ggX5_write_X1_writePart
theorem dX5_write_0 : decode cX5_write 0 = .ok (.aload_n 0, 1) := by decide +kernel
theorem dX5_write_1 : decode cX5_write 1 = .ok (.getfield 9, 3) := by decide +kernel
theorem dX5_write_4 : decode cX5_write 4 = .ok (.iconst (-1), 1) := by decide +kernel
theorem dX5_write_5 : decode cX5_write 5 = .ok (.if_icmp .eq 14, 3) := by decide +kernel
theorem dX5_write_8 : decode cX5_write 8 = .ok (.aload_n 0, 1) := by decide +kernel
theorem dX5_write_9 : decode cX5_write 9 = .ok (.getfield 15, 3) := by decide +kernel
theorem dX5_write_12 : decode cX5_write 12 = .ok (.aload_n 0, 1) := by decide +kernel
theorem dX5_write_13 : decode cX5_write 13 = .ok (.getfield 9, 3) := by decide +kernel
theorem dX5_write_16 : decode cX5_write 16 = .ok (.if_icmp .ge 21, 3) := by decide +kernel
theorem dX5_write_19 : decode cX5_write 19 = .ok (.aload_n 1, 1) := by decide +kernel
theorem dX5_write_20 : decode cX5_write 20 = .ok (.iload_n 2, 1) := by decide +kernel
theorem dX5_write_21 : decode cX5_write 21 = .ok (.invokevirtual 21, 3) := by decide +kernel
theorem dX5_write_24 : decode cX5_write 24 = .ok (.aload_n 0, 1) := by decide +kernel
theorem dX5_write_25 : decode cX5_write 25 = .ok (.dup, 1) := by decide +kernel
theorem dX5_write_26 : decode cX5_write 26 = .ok (.getfield 15, 3) := by decide +kernel
theorem dX5_write_29 : decode cX5_write 29 = .ok (.iconst 1, 1) := by decide +kernel
theorem dX5_write_30 : decode cX5_write 30 = .ok (.iadd, 1) := by decide +kernel
theorem dX5_write_31 : decode cX5_write 31 = .ok (.putfield 15, 3) := by decide +kernel
theorem dX5_write_34 : decode cX5_write 34 = .ok (.goto 25, 3) := by decide +kernel
theorem dX5_write_37 : decode cX5_write 37 = .ok (.aload_n 0, 1) := by decide +kernel
theorem dX5_write_38 : decode cX5_write 38 = .ok (.getfield 18, 3) := by decide +kernel
theorem dX5_write_41 : decode cX5_write 41 = .ok (.ifCond .ne 18, 3) := by decide +kernel
theorem dX5_write_44 : decode cX5_write 44 = .ok (.aload_n 1, 1) := by decide +kernel
theorem dX5_write_45 : decode cX5_write 45 = .ok (.iload_n 2, 1) := by decide +kernel
theorem dX5_write_46 : decode cX5_write 46 = .ok (.invokevirtual 27, 3) := by decide +kernel
theorem dX5_write_49 : decode cX5_write 49 = .ok (.aload_n 0, 1) := by decide +kernel
theorem dX5_write_50 : decode cX5_write 50 = .ok (.dup, 1) := by decide +kernel
theorem dX5_write_51 : decode cX5_write 51 = .ok (.getfield 18, 3) := by decide +kernel
theorem dX5_write_54 : decode cX5_write 54 = .ok (.iconst 1, 1) := by decide +kernel
theorem dX5_write_55 : decode cX5_write 55 = .ok (.iadd, 1) := by decide +kernel
theorem dX5_write_56 : decode cX5_write 56 = .ok (.putfield 18, 3) := by decide +kernel
theorem dX5_write_59 : decode cX5_write 59 = .ok (.return_, 1) := by decide +kernel
theorem dX6_init_0 : decode cX6_init 0 = .ok (.aload_n 0, 1) := by decide +kernel
theorem dX6_init_1 : decode cX6_init 1 = .ok (.invokespecial 3, 3) := by decide +kernel
theorem dX6_init_4 : decode cX6_init 4 = .ok (.aload_n 0, 1) := by decide +kernel
theorem dX6_init_5 : decode cX6_init 5 = .ok (.bipush 64, 2) := by decide +kernel
theorem dX6_init_7 : decode cX6_init 7 = .ok (.newarray .int, 2) := by decide +kernel
theorem dX6_init_9 : decode cX6_init 9 = .ok (.putfield 9, 3) := by decide +kernel
theorem dX6_init_12 : decode cX6_init 12 = .ok (.aload_n 0, 1) := by decide +kernel
theorem dX6_init_13 : decode cX6_init 13 = .ok (.bipush 64, 2) := by decide +kernel
theorem dX6_init_15 : decode cX6_init 15 = .ok (.newarray .int, 2) := by decide +kernel
theorem dX6_init_17 : decode cX6_init 17 = .ok (.putfield 15, 3) := by decide +kernel
theorem dX6_init_20 : decode cX6_init 20 = .ok (.aload_n 0, 1) := by decide +kernel
theorem dX6_init_21 : decode cX6_init 21 = .ok (.bipush 64, 2) := by decide +kernel
theorem dX6_init_23 : decode cX6_init 23 = .ok (.newarray .int, 2) := by decide +kernel
theorem dX6_init_25 : decode cX6_init 25 = .ok (.putfield 18, 3) := by decide +kernel
theorem dX6_init_28 : decode cX6_init 28 = .ok (.aload_n 0, 1) := by decide +kernel
theorem dX6_init_29 : decode cX6_init 29 = .ok (.lconst 0, 1) := by decide +kernel
theorem dX6_init_30 : decode cX6_init 30 = .ok (.putfield 21, 3) := by decide +kernel
theorem dX6_init_33 : decode cX6_init 33 = .ok (.return_, 1) := by decide +kernel
set_option maxRecDepth 20000 in
theorem ggX6_scan_X1_isUsablePage : GoodIn wsX6_scan wsX1_isUsablePage := goodIn_r _ [7, 8, 9, 10, 6, 11, 12, 13, 14, 15, 16, 17, 18, 19, 20, 21, 22, 23, 49, 50] (by decide +kernel) (by decide +kernel)
set_option maxRecDepth 20000 in
theorem gX6_scan_X1_isUsablePage : GoodIn wsX6_scan (wsV RX6 31 RX1 yX1_isUsablePage wsX1_isUsablePage) := goodIn_app (goodIn_of _ (by decide +kernel)) ggX6_scan_X1_isUsablePage
set_option maxRecDepth 20000 in
theorem ggX6_scan_X6_scanPage : GoodIn wsX6_scan wsX6_scanPage := goodIn_r _ [28, 1, 29, 30, 31, 32, 33, 34, 35, 36, 37, 38, 39, 40, 41, 27, 42, 43, 44, 45, 46, 47, 48] (by decide +kernel) (by decide +kernel)
set_option maxRecDepth 20000 in
theorem gX6_scan_X6_scanPage : GoodIn wsX6_scan (wsV RX6 35 RX6 yX6_scanPage wsX6_scanPage) := goodIn_app (goodIn_of _ (by decide +kernel)) ggX6_scan_X6_scanPage
theorem dX6_scan_0 : decode cX6_scan 0 = .ok (.aload_n 0, 1) := by decide +kernel
theorem dX6_scan_1 : decode cX6_scan 1 = .ok (.lconst 0, 1) := by decide +kernel
theorem dX6_scan_2 : decode cX6_scan 2 = .ok (.putfield 21, 3) := by decide +kernel
theorem dX6_scan_5 : decode cX6_scan 5 = .ok (.iconst 2, 1) := by decide +kernel
theorem dX6_scan_6 : decode cX6_scan 6 = .ok (.istore_n 2, 1) := by decide +kernel
theorem dX6_scan_7 : decode cX6_scan 7 = .ok (.iload_n 2, 1) := by decide +kernel
theorem dX6_scan_8 : decode cX6_scan 8 = .ok (.bipush 32, 2) := by decide +kernel
theorem dX6_scan_10 : decode cX6_scan 10 = .ok (.if_icmp .ge 48, 3) := by decide +kernel
theorem dX6_scan_13 : decode cX6_scan 13 = .ok (.aload_n 1, 1) := by decide +kernel
theorem dX6_scan_14 : decode cX6_scan 14 = .ok (.getfield 25, 3) := by decide +kernel
theorem dX6_scan_17 : decode cX6_scan 17 = .ok (.iload_n 2, 1) := by decide +kernel
theorem dX6_scan_18 : decode cX6_scan 18 = .ok (.aaload, 1) := by decide +kernel
theorem dX6_scan_19 : decode cX6_scan 19 = .ok (.iconst 2, 1) := by decide +kernel
theorem dX6_scan_20 : decode cX6_scan 20 = .ok (.iaload, 1) := by decide +kernel
theorem dX6_scan_21 : decode cX6_scan 21 = .ok (.istore_n 3, 1) := by decide +kernel
theorem dX6_scan_22 : decode cX6_scan 22 = .ok (.iload_n 3, 1) := by decide +kernel
theorem dX6_scan_23 : decode cX6_scan 23 = .ok (.ifCond .lt 29, 3) := by decide +kernel
theorem dX6_scan_26 : decode cX6_scan 26 = .ok (.iload_n 3, 1) := by decide +kernel
theorem dX6_scan_27 : decode cX6_scan 27 = .ok (.bipush 8, 2) := by decide +kernel
theorem dX6_scan_29 : decode cX6_scan 29 = .ok (.if_icmp .ge 23, 3) := by decide +kernel
theorem dX6_scan_32 : decode cX6_scan 32 = .ok (.aload_n 1, 1) := by decide +kernel
theorem dX6_scan_33 : decode cX6_scan 33 = .ok (.iload_n 2, 1) := by decide +kernel
theorem dX6_scan_34 : decode cX6_scan 34 = .ok (.iload_n 3, 1) := by decide +kernel
theorem dX6_scan_35 : decode cX6_scan 35 = .ok (.invokevirtual 31, 3) := by decide +kernel
theorem dX6_scan_38 : decode cX6_scan 38 = .ok (.ifCond .eq 14, 3) := by decide +kernel
theorem dX6_scan_41 : decode cX6_scan 41 = .ok (.aload_n 0, 1) := by decide +kernel
theorem dX6_scan_42 : decode cX6_scan 42 = .ok (.aload_n 1, 1) := by decide +kernel
theorem dX6_scan_43 : decode cX6_scan 43 = .ok (.getfield 25, 3) := by decide +kernel
theorem dX6_scan_46 : decode cX6_scan 46 = .ok (.iload_n 2, 1) := by decide +kernel
theorem dX6_scan_47 : decode cX6_scan 47 = .ok (.aaload, 1) := by decide +kernel
theorem dX6_scan_48 : decode cX6_scan 48 = .ok (.iload_n 2, 1) := by decide +kernel
theorem dX6_scan_49 : decode cX6_scan 49 = .ok (.invokevirtual 35, 3) := by decide +kernel
theorem dX6_scan_52 : decode cX6_scan 52 = .ok (.iinc 2 1, 3) := by decide +kernel
theorem dX6_scan_55 : decode cX6_scan 55 = .ok (.goto (-48), 3) := by decide +kernel
theorem dX6_scan_58 : decode cX6_scan 58 = .ok (.return_, 1) := by decide +kernel
set_option maxRecDepth 20000 in
theorem ggX6_scanPage_X8_keyOf : GoodIn wsX6_scanPage wsX8_keyOf := goodIn_r _ [8] (by decide +kernel) (by decide +kernel)
set_option maxRecDepth 20000 in
theorem gX6_scanPage_X8_keyOf : GoodIn wsX6_scanPage (va_wsS RX6 39 yX8_keyOf wsX8_keyOf) := goodIn_app (goodIn_of _ (by decide +kernel)) ggX6_scanPage_X8_keyOf
set_option maxRecDepth 20000 in
theorem ggX6_scanPage_X9_isIn : GoodIn wsX6_scanPage wsX9_isIn := goodIn_r _ [11] (by decide +kernel) (by decide +kernel)
set_option maxRecDepth 20000 in
theorem gX6_scanPage_X9_isIn_n45 : GoodIn wsX6_scanPage (wsX9_isIn) := ggX6_scanPage_X9_isIn
set_option maxRecDepth 20000 in
theorem ggX6_scanPage_X6_isBetter : GoodIn wsX6_scanPage wsX6_isBetter := goodIn_r _ [16, 1, 3, 9, 10, 11, 19, 20, 21, 22] (by decide +kernel) (by decide +kernel)
set_option maxRecDepth 20000 in
theorem gX6_scanPage_X6_isBetter : GoodIn wsX6_scanPage (wsV RX6 49 RX6 yX6_isBetter wsX6_isBetter) := goodIn_app (goodIn_of _ (by decide +kernel)) ggX6_scanPage_X6_isBetter
set_option maxRecDepth 20000 in
theorem ggX6_scanPage_X9_setOf : GoodIn wsX6_scanPage wsX9_setOf := goodIn_r _ [18] (by decide +kernel) (by decide +kernel)
set_option maxRecDepth 20000 in
theorem gX6_scanPage_X9_setOf_n52 : GoodIn wsX6_scanPage (wsX9_setOf) := ggX6_scanPage_X9_setOf
theorem dX6_scanPage_0 : decode cX6_scanPage 0 = .ok (.iconst 0, 1) := by decide +kernel
theorem dX6_scanPage_1 : decode cX6_scanPage 1 = .ok (.istore_n 3, 1) := by decide +kernel
theorem dX6_scanPage_2 : decode cX6_scanPage 2 = .ok (.iload_n 3, 1) := by decide +kernel
theorem dX6_scanPage_3 : decode cX6_scanPage 3 = .ok (.bipush 8, 2) := by decide +kernel
theorem dX6_scanPage_5 : decode cX6_scanPage 5 = .ok (.if_icmp .ge 85, 3) := by decide +kernel
theorem dX6_scanPage_8 : decode cX6_scanPage 8 = .ok (.aload_n 1, 1) := by decide +kernel
theorem dX6_scanPage_9 : decode cX6_scanPage 9 = .ok (.iconst 2, 1) := by decide +kernel
theorem dX6_scanPage_10 : decode cX6_scanPage 10 = .ok (.iaload, 1) := by decide +kernel
theorem dX6_scanPage_11 : decode cX6_scanPage 11 = .ok (.iload_n 3, 1) := by decide +kernel
theorem dX6_scanPage_12 : decode cX6_scanPage 12 = .ok (.invokestatic 39, 3) := by decide +kernel
theorem dX6_scanPage_15 : decode cX6_scanPage 15 = .ok (.istore 4, 2) := by decide +kernel
theorem dX6_scanPage_17 : decode cX6_scanPage 17 = .ok (.aload_n 1, 1) := by decide +kernel
theorem dX6_scanPage_18 : decode cX6_scanPage 18 = .ok (.iconst 3, 1) := by decide +kernel
theorem dX6_scanPage_19 : decode cX6_scanPage 19 = .ok (.iaload, 1) := by decide +kernel
theorem dX6_scanPage_20 : decode cX6_scanPage 20 = .ok (.i2l, 1) := by decide +kernel
theorem dX6_scanPage_21 : decode cX6_scanPage 21 = .ok (.iload_n 3, 1) := by decide +kernel
theorem dX6_scanPage_22 : decode cX6_scanPage 22 = .ok (.invokestatic 45, 3) := by decide +kernel
theorem dX6_scanPage_25 : decode cX6_scanPage 25 = .ok (.ifCond .eq 59, 3) := by decide +kernel
theorem dX6_scanPage_28 : decode cX6_scanPage 28 = .ok (.aload_n 0, 1) := by decide +kernel
theorem dX6_scanPage_29 : decode cX6_scanPage 29 = .ok (.iload 4, 2) := by decide +kernel
theorem dX6_scanPage_31 : decode cX6_scanPage 31 = .ok (.aload_n 1, 1) := by decide +kernel
theorem dX6_scanPage_32 : decode cX6_scanPage 32 = .ok (.iconst 1, 1) := by decide +kernel
theorem dX6_scanPage_33 : decode cX6_scanPage 33 = .ok (.iaload, 1) := by decide +kernel
theorem dX6_scanPage_34 : decode cX6_scanPage 34 = .ok (.invokevirtual 49, 3) := by decide +kernel
theorem dX6_scanPage_37 : decode cX6_scanPage 37 = .ok (.ifCond .eq 47, 3) := by decide +kernel
theorem dX6_scanPage_40 : decode cX6_scanPage 40 = .ok (.aload_n 0, 1) := by decide +kernel
theorem dX6_scanPage_41 : decode cX6_scanPage 41 = .ok (.dup, 1) := by decide +kernel
theorem dX6_scanPage_42 : decode cX6_scanPage 42 = .ok (.getfield 21, 3) := by decide +kernel
theorem dX6_scanPage_45 : decode cX6_scanPage 45 = .ok (.iload 4, 2) := by decide +kernel
theorem dX6_scanPage_47 : decode cX6_scanPage 47 = .ok (.invokestatic 52, 3) := by decide +kernel
theorem dX6_scanPage_50 : decode cX6_scanPage 50 = .ok (.lor, 1) := by decide +kernel
theorem dX6_scanPage_51 : decode cX6_scanPage 51 = .ok (.putfield 21, 3) := by decide +kernel
theorem dX6_scanPage_54 : decode cX6_scanPage 54 = .ok (.aload_n 0, 1) := by decide +kernel
theorem dX6_scanPage_55 : decode cX6_scanPage 55 = .ok (.getfield 9, 3) := by decide +kernel
theorem dX6_scanPage_58 : decode cX6_scanPage 58 = .ok (.iload 4, 2) := by decide +kernel
theorem dX6_scanPage_60 : decode cX6_scanPage 60 = .ok (.aload_n 1, 1) := by decide +kernel
theorem dX6_scanPage_61 : decode cX6_scanPage 61 = .ok (.iconst 4, 1) := by decide +kernel
theorem dX6_scanPage_62 : decode cX6_scanPage 62 = .ok (.iload_n 3, 1) := by decide +kernel
theorem dX6_scanPage_63 : decode cX6_scanPage 63 = .ok (.iadd, 1) := by decide +kernel
theorem dX6_scanPage_64 : decode cX6_scanPage 64 = .ok (.iaload, 1) := by decide +kernel
theorem dX6_scanPage_65 : decode cX6_scanPage 65 = .ok (.iastore, 1) := by decide +kernel
theorem dX6_scanPage_66 : decode cX6_scanPage 66 = .ok (.aload_n 0, 1) := by decide +kernel
theorem dX6_scanPage_67 : decode cX6_scanPage 67 = .ok (.getfield 15, 3) := by decide +kernel
theorem dX6_scanPage_70 : decode cX6_scanPage 70 = .ok (.iload 4, 2) := by decide +kernel
theorem dX6_scanPage_72 : decode cX6_scanPage 72 = .ok (.aload_n 1, 1) := by decide +kernel
theorem dX6_scanPage_73 : decode cX6_scanPage 73 = .ok (.iconst 1, 1) := by decide +kernel
theorem dX6_scanPage_74 : decode cX6_scanPage 74 = .ok (.iaload, 1) := by decide +kernel
theorem dX6_scanPage_75 : decode cX6_scanPage 75 = .ok (.iastore, 1) := by decide +kernel
theorem dX6_scanPage_76 : decode cX6_scanPage 76 = .ok (.aload_n 0, 1) := by decide +kernel
theorem dX6_scanPage_77 : decode cX6_scanPage 77 = .ok (.getfield 18, 3) := by decide +kernel
theorem dX6_scanPage_80 : decode cX6_scanPage 80 = .ok (.iload 4, 2) := by decide +kernel
theorem dX6_scanPage_82 : decode cX6_scanPage 82 = .ok (.iload_n 2, 1) := by decide +kernel
theorem dX6_scanPage_83 : decode cX6_scanPage 83 = .ok (.iastore, 1) := by decide +kernel
theorem dX6_scanPage_84 : decode cX6_scanPage 84 = .ok (.iinc 3 1, 3) := by decide +kernel
theorem dX6_scanPage_87 : decode cX6_scanPage 87 = .ok (.goto (-85), 3) := by decide +kernel
theorem dX6_scanPage_90 : decode cX6_scanPage 90 = .ok (.return_, 1) := by decide +kernel
set_option maxRecDepth 20000 in
theorem ggX6_isBetter_X9_isIn : GoodIn wsX6_isBetter wsX9_isIn := goodIn_r _ [5] (by decide +kernel) (by decide +kernel)
set_option maxRecDepth 20000 in
theorem gX6_isBetter_X9_isIn_n45 : GoodIn wsX6_isBetter (wsX9_isIn) := ggX6_isBetter_X9_isIn
theorem dX6_isBetter_0 : decode cX6_isBetter 0 = .ok (.aload_n 0, 1) := by decide +kernel
theorem dX6_isBetter_1 : decode cX6_isBetter 1 = .ok (.getfield 21, 3) := by decide +kernel
theorem dX6_isBetter_4 : decode cX6_isBetter 4 = .ok (.iload_n 1, 1) := by decide +kernel
theorem dX6_isBetter_5 : decode cX6_isBetter 5 = .ok (.invokestatic 45, 3) := by decide +kernel
theorem dX6_isBetter_8 : decode cX6_isBetter 8 = .ok (.ifCond .eq 13, 3) := by decide +kernel
theorem dX6_isBetter_11 : decode cX6_isBetter 11 = .ok (.iload_n 2, 1) := by decide +kernel
theorem dX6_isBetter_12 : decode cX6_isBetter 12 = .ok (.aload_n 0, 1) := by decide +kernel
theorem dX6_isBetter_13 : decode cX6_isBetter 13 = .ok (.getfield 15, 3) := by decide +kernel
theorem dX6_isBetter_16 : decode cX6_isBetter 16 = .ok (.iload_n 1, 1) := by decide +kernel
theorem dX6_isBetter_17 : decode cX6_isBetter 17 = .ok (.iaload, 1) := by decide +kernel
theorem dX6_isBetter_18 : decode cX6_isBetter 18 = .ok (.if_icmp .le 7, 3) := by decide +kernel
theorem dX6_isBetter_21 : decode cX6_isBetter 21 = .ok (.iconst 1, 1) := by decide +kernel
theorem dX6_isBetter_22 : decode cX6_isBetter 22 = .ok (.goto 4, 3) := by decide +kernel
theorem dX6_isBetter_25 : decode cX6_isBetter 25 = .ok (.iconst 0, 1) := by decide +kernel
theorem dX6_isBetter_26 : decode cX6_isBetter 26 = .ok (.ireturn, 1) := by decide +kernel
set_option maxRecDepth 20000 in
theorem ggX7_init_X0_init : GoodIn wsX7_init wsX0_init := goodIn_r _ [12, 13, 2, 3, 14, 15, 16, 17, 18, 19, 20] (by decide +kernel) (by decide +kernel)
set_option maxRecDepth 20000 in
theorem gX7_init_X0_init_n11 : GoodIn wsX7_init (wsX0_init) := ggX7_init_X0_init
theorem dX7_init_0 : decode cX7_init 0 = .ok (.aload_n 0, 1) := by decide +kernel
theorem dX7_init_1 : decode cX7_init 1 = .ok (.invokespecial 3, 3) := by decide +kernel
theorem dX7_init_4 : decode cX7_init 4 = .ok (.aload_n 0, 1) := by decide +kernel
theorem dX7_init_5 : decode cX7_init 5 = .ok (.new 9, 3) := by decide +kernel
theorem dX7_init_8 : decode cX7_init 8 = .ok (.dup, 1) := by decide +kernel
theorem dX7_init_9 : decode cX7_init 9 = .ok (.invokespecial 11, 3) := by decide +kernel
theorem dX7_init_12 : decode cX7_init 12 = .ok (.putfield 12, 3) := by decide +kernel
theorem dX7_init_15 : decode cX7_init 15 = .ok (.aload_n 0, 1) := by decide +kernel
theorem dX7_init_16 : decode cX7_init 16 = .ok (.iconst 3, 1) := by decide +kernel
theorem dX7_init_17 : decode cX7_init 17 = .ok (.anewarray 9, 3) := by decide +kernel
theorem dX7_init_20 : decode cX7_init 20 = .ok (.putfield 18, 3) := by decide +kernel
theorem dX7_init_23 : decode cX7_init 23 = .ok (.aload_n 0, 1) := by decide +kernel
theorem dX7_init_24 : decode cX7_init 24 = .ok (.iconst 0, 1) := by decide +kernel
theorem dX7_init_25 : decode cX7_init 25 = .ok (.putfield 22, 3) := by decide +kernel
theorem dX7_init_28 : decode cX7_init 28 = .ok (.aload_n 0, 1) := by decide +kernel
theorem dX7_init_29 : decode cX7_init 29 = .ok (.iconst 0, 1) := by decide +kernel
theorem dX7_init_30 : decode cX7_init 30 = .ok (.putfield 26, 3) := by decide +kernel
theorem dX7_init_33 : decode cX7_init 33 = .ok (.iconst 0, 1) := by decide +kernel
theorem dX7_init_34 : decode cX7_init 34 = .ok (.istore_n 1, 1) := by decide +kernel
theorem dX7_init_35 : decode cX7_init 35 = .ok (.iload_n 1, 1) := by decide +kernel
theorem dX7_init_36 : decode cX7_init 36 = .ok (.iconst 3, 1) := by decide +kernel
theorem dX7_init_37 : decode cX7_init 37 = .ok (.if_icmp .ge 22, 3) := by decide +kernel
theorem dX7_init_40 : decode cX7_init 40 = .ok (.aload_n 0, 1) := by decide +kernel
theorem dX7_init_41 : decode cX7_init 41 = .ok (.getfield 18, 3) := by decide +kernel
theorem dX7_init_44 : decode cX7_init 44 = .ok (.iload_n 1, 1) := by decide +kernel
theorem dX7_init_45 : decode cX7_init 45 = .ok (.new 9, 3) := by decide +kernel
theorem dX7_init_48 : decode cX7_init 48 = .ok (.dup, 1) := by decide +kernel
theorem dX7_init_49 : decode cX7_init 49 = .ok (.invokespecial 11, 3) := by decide +kernel
theorem dX7_init_52 : decode cX7_init 52 = .ok (.aastore, 1) := by decide +kernel
theorem dX7_init_53 : decode cX7_init 53 = .ok (.iinc 1 1, 3) := by decide +kernel
theorem dX7_init_56 : decode cX7_init 56 = .ok (.goto (-21), 3) := by decide +kernel
theorem dX7_init_59 : decode cX7_init 59 = .ok (.return_, 1) := by decide +kernel
set_option maxRecDepth 20000 in
theorem ggX7_reset_X0_clear : GoodIn wsX7_reset wsX0_clear := goodIn_r _ [8, 9, 10, 15, 16, 17] (by decide +kernel) (by decide +kernel)
set_option maxRecDepth 20000 in
theorem gX7_reset_X0_clear : GoodIn wsX7_reset (wsV RX7 29 RX0 yX0_clear wsX0_clear) := goodIn_app (goodIn_of _ (by decide +kernel)) ggX7_reset_X0_clear
theorem dX7_reset_0 : decode cX7_reset 0 = .ok (.aload_n 0, 1) := by decide +kernel
theorem dX7_reset_1 : decode cX7_reset 1 = .ok (.iload_n 1, 1) := by decide +kernel
theorem dX7_reset_2 : decode cX7_reset 2 = .ok (.putfield 26, 3) := by decide +kernel
theorem dX7_reset_5 : decode cX7_reset 5 = .ok (.aload_n 0, 1) := by decide +kernel
theorem dX7_reset_6 : decode cX7_reset 6 = .ok (.iconst 0, 1) := by decide +kernel
theorem dX7_reset_7 : decode cX7_reset 7 = .ok (.putfield 22, 3) := by decide +kernel
theorem dX7_reset_10 : decode cX7_reset 10 = .ok (.aload_n 0, 1) := by decide +kernel
theorem dX7_reset_11 : decode cX7_reset 11 = .ok (.getfield 12, 3) := by decide +kernel
theorem dX7_reset_14 : decode cX7_reset 14 = .ok (.invokevirtual 29, 3) := by decide +kernel
theorem dX7_reset_17 : decode cX7_reset 17 = .ok (.return_, 1) := by decide +kernel
set_option maxRecDepth 20000 in
theorem ggX7_setMark_X0_copyFrom : GoodIn wsX7_setMark wsX0_copyFrom := goodIn_r _ [8, 9, 10, 11, 12, 13, 14, 15, 20, 21, 22] (by decide +kernel) (by decide +kernel)
set_option maxRecDepth 20000 in
theorem gX7_setMark_X0_copyFrom : GoodIn wsX7_setMark (wsV RX7 32 RX0 yX0_copyFrom wsX0_copyFrom) := goodIn_app (goodIn_of _ (by decide +kernel)) ggX7_setMark_X0_copyFrom
theorem dX7_setMark_0 : decode cX7_setMark 0 = .ok (.aload_n 0, 1) := by decide +kernel
theorem dX7_setMark_1 : decode cX7_setMark 1 = .ok (.getfield 22, 3) := by decide +kernel
theorem dX7_setMark_4 : decode cX7_setMark 4 = .ok (.iconst 3, 1) := by decide +kernel
theorem dX7_setMark_5 : decode cX7_setMark 5 = .ok (.if_icmp .ge 29, 3) := by decide +kernel
theorem dX7_setMark_8 : decode cX7_setMark 8 = .ok (.aload_n 0, 1) := by decide +kernel
theorem dX7_setMark_9 : decode cX7_setMark 9 = .ok (.getfield 18, 3) := by decide +kernel
theorem dX7_setMark_12 : decode cX7_setMark 12 = .ok (.aload_n 0, 1) := by decide +kernel
theorem dX7_setMark_13 : decode cX7_setMark 13 = .ok (.getfield 22, 3) := by decide +kernel
theorem dX7_setMark_16 : decode cX7_setMark 16 = .ok (.aaload, 1) := by decide +kernel
theorem dX7_setMark_17 : decode cX7_setMark 17 = .ok (.aload_n 0, 1) := by decide +kernel
theorem dX7_setMark_18 : decode cX7_setMark 18 = .ok (.getfield 12, 3) := by decide +kernel
theorem dX7_setMark_21 : decode cX7_setMark 21 = .ok (.invokevirtual 32, 3) := by decide +kernel
theorem dX7_setMark_24 : decode cX7_setMark 24 = .ok (.aload_n 0, 1) := by decide +kernel
theorem dX7_setMark_25 : decode cX7_setMark 25 = .ok (.dup, 1) := by decide +kernel
theorem dX7_setMark_26 : decode cX7_setMark 26 = .ok (.getfield 22, 3) := by decide +kernel
theorem dX7_setMark_29 : decode cX7_setMark 29 = .ok (.iconst 1, 1) := by decide +kernel
theorem dX7_setMark_30 : decode cX7_setMark 30 = .ok (.iadd, 1) := by decide +kernel
theorem dX7_setMark_31 : decode cX7_setMark 31 = .ok (.putfield 22, 3) := by decide +kernel
theorem dX7_setMark_34 : decode cX7_setMark 34 = .ok (.aload_n 0, 1) := by decide +kernel
theorem dX7_setMark_35 : decode cX7_setMark 35 = .ok (.getfield 22, 3) := by decide +kernel
theorem dX7_setMark_38 : decode cX7_setMark 38 = .ok (.ireturn, 1) := by decide +kernel
set_option maxRecDepth 20000 in
theorem ggX7_takeMark_X0_copyFrom : GoodIn wsX7_takeMark wsX0_copyFrom := goodIn_r _ [8, 9, 10, 11, 12, 13, 14, 15, 20, 21, 22] (by decide +kernel) (by decide +kernel)
set_option maxRecDepth 20000 in
theorem gX7_takeMark_X0_copyFrom : GoodIn wsX7_takeMark (wsV RX7 32 RX0 yX0_copyFrom wsX0_copyFrom) := goodIn_app (goodIn_of _ (by decide +kernel)) ggX7_takeMark_X0_copyFrom
theorem dX7_takeMark_0 : decode cX7_takeMark 0 = .ok (.aload_n 0, 1) := by decide +kernel
theorem dX7_takeMark_1 : decode cX7_takeMark 1 = .ok (.getfield 22, 3) := by decide +kernel
theorem dX7_takeMark_4 : decode cX7_takeMark 4 = .ok (.ifCond .le 29, 3) := by decide +kernel
theorem dX7_takeMark_7 : decode cX7_takeMark 7 = .ok (.aload_n 0, 1) := by decide +kernel
theorem dX7_takeMark_8 : decode cX7_takeMark 8 = .ok (.dup, 1) := by decide +kernel
theorem dX7_takeMark_9 : decode cX7_takeMark 9 = .ok (.getfield 22, 3) := by decide +kernel
theorem dX7_takeMark_12 : decode cX7_takeMark 12 = .ok (.iconst 1, 1) := by decide +kernel
theorem dX7_takeMark_13 : decode cX7_takeMark 13 = .ok (.isub, 1) := by decide +kernel
theorem dX7_takeMark_14 : decode cX7_takeMark 14 = .ok (.putfield 22, 3) := by decide +kernel
theorem dX7_takeMark_17 : decode cX7_takeMark 17 = .ok (.aload_n 0, 1) := by decide +kernel
theorem dX7_takeMark_18 : decode cX7_takeMark 18 = .ok (.getfield 12, 3) := by decide +kernel
theorem dX7_takeMark_21 : decode cX7_takeMark 21 = .ok (.aload_n 0, 1) := by decide +kernel
theorem dX7_takeMark_22 : decode cX7_takeMark 22 = .ok (.getfield 18, 3) := by decide +kernel
theorem dX7_takeMark_25 : decode cX7_takeMark 25 = .ok (.aload_n 0, 1) := by decide +kernel
theorem dX7_takeMark_26 : decode cX7_takeMark 26 = .ok (.getfield 22, 3) := by decide +kernel
theorem dX7_takeMark_29 : decode cX7_takeMark 29 = .ok (.aaload, 1) := by decide +kernel
theorem dX7_takeMark_30 : decode cX7_takeMark 30 = .ok (.invokevirtual 32, 3) := by decide +kernel
theorem dX7_takeMark_33 : decode cX7_takeMark 33 = .ok (.return_, 1) := by decide +kernel
theorem dX8_init_0 : decode cX8_init 0 = .ok (.aload_n 0, 1) := by decide +kernel
theorem dX8_init_1 : decode cX8_init 1 = .ok (.invokespecial 3, 3) := by decide +kernel
theorem dX8_init_4 : decode cX8_init 4 = .ok (.aload_n 0, 1) := by decide +kernel
theorem dX8_init_5 : decode cX8_init 5 = .ok (.bipush 8, 2) := by decide +kernel
theorem dX8_init_7 : decode cX8_init 7 = .ok (.newarray .int, 2) := by decide +kernel
theorem dX8_init_9 : decode cX8_init 9 = .ok (.putfield 9, 3) := by decide +kernel
theorem dX8_init_12 : decode cX8_init 12 = .ok (.aload_n 0, 1) := by decide +kernel
theorem dX8_init_13 : decode cX8_init 13 = .ok (.bipush 64, 2) := by decide +kernel
theorem dX8_init_15 : decode cX8_init 15 = .ok (.newarray .int, 2) := by decide +kernel
theorem dX8_init_17 : decode cX8_init 17 = .ok (.putfield 15, 3) := by decide +kernel
theorem dX8_init_20 : decode cX8_init 20 = .ok (.aload_n 0, 1) := by decide +kernel
theorem dX8_init_21 : decode cX8_init 21 = .ok (.lconst 0, 1) := by decide +kernel
theorem dX8_init_22 : decode cX8_init 22 = .ok (.putfield 18, 3) := by decide +kernel
theorem dX8_init_25 : decode cX8_init 25 = .ok (.aload_n 0, 1) := by decide +kernel
theorem dX8_init_26 : decode cX8_init 26 = .ok (.iconst 0, 1) := by decide +kernel
theorem dX8_init_27 : decode cX8_init 27 = .ok (.putfield 22, 3) := by decide +kernel
theorem dX8_init_30 : decode cX8_init 30 = .ok (.aload_n 0, 1) := by decide +kernel
theorem dX8_init_31 : decode cX8_init 31 = .ok (.iconst 0, 1) := by decide +kernel
theorem dX8_init_32 : decode cX8_init 32 = .ok (.putfield 26, 3) := by decide +kernel
theorem dX8_init_35 : decode cX8_init 35 = .ok (.aload_n 0, 1) := by decide +kernel
theorem dX8_init_36 : decode cX8_init 36 = .ok (.iconst 2, 1) := by decide +kernel
theorem dX8_init_37 : decode cX8_init 37 = .ok (.putfield 29, 3) := by decide +kernel
theorem dX8_init_40 : decode cX8_init 40 = .ok (.return_, 1) := by decide +kernel
theorem dX8_keyOf_0 : decode cX8_keyOf 0 = .ok (.iload_n 0, 1) := by decide +kernel
theorem dX8_keyOf_1 : decode cX8_keyOf 1 = .ok (.bipush 8, 2) := by decide +kernel
theorem dX8_keyOf_3 : decode cX8_keyOf 3 = .ok (.iload_n 1, 1) := by decide +kernel
theorem dX8_keyOf_4 : decode cX8_keyOf 4 = .ok (.imul, 1) := by decide +kernel
theorem dX8_keyOf_5 : decode cX8_keyOf 5 = .ok (.iadd, 1) := by decide +kernel
theorem dX8_keyOf_6 : decode cX8_keyOf 6 = .ok (.ireturn, 1) := by decide +kernel
set_option maxRecDepth 20000 in
theorem ggX8_makeEmpty_J7_fill_53178 : GoodIn wsX8_makeEmpty wsJ7_fill_53178 := goodIn_r _ [9] (by decide +kernel) (by decide +kernel)
set_option maxRecDepth 20000 in
theorem gX8_makeEmpty_J7_fill_53178 : GoodIn wsX8_makeEmpty (va_wsS RX8 32 yJ7_fill_53178 wsJ7_fill_53178) := goodIn_app (goodIn_of _ (by decide +kernel)) ggX8_makeEmpty_J7_fill_53178
theorem dX8_makeEmpty_0 : decode cX8_makeEmpty 0 = .ok (.aload_n 0, 1) := by decide +kernel
theorem dX8_makeEmpty_1 : decode cX8_makeEmpty 1 = .ok (.getfield 9, 3) := by decide +kernel
theorem dX8_makeEmpty_4 : decode cX8_makeEmpty 4 = .ok (.iconst (-1), 1) := by decide +kernel
theorem dX8_makeEmpty_5 : decode cX8_makeEmpty 5 = .ok (.invokestatic 32, 3) := by decide +kernel
theorem dX8_makeEmpty_8 : decode cX8_makeEmpty 8 = .ok (.aload_n 0, 1) := by decide +kernel
theorem dX8_makeEmpty_9 : decode cX8_makeEmpty 9 = .ok (.lconst 0, 1) := by decide +kernel
theorem dX8_makeEmpty_10 : decode cX8_makeEmpty 10 = .ok (.putfield 18, 3) := by decide +kernel
theorem dX8_makeEmpty_13 : decode cX8_makeEmpty 13 = .ok (.aload_n 0, 1) := by decide +kernel
theorem dX8_makeEmpty_14 : decode cX8_makeEmpty 14 = .ok (.iconst 0, 1) := by decide +kernel
theorem dX8_makeEmpty_15 : decode cX8_makeEmpty 15 = .ok (.putfield 22, 3) := by decide +kernel
theorem dX8_makeEmpty_18 : decode cX8_makeEmpty 18 = .ok (.aload_n 0, 1) := by decide +kernel
theorem dX8_makeEmpty_19 : decode cX8_makeEmpty 19 = .ok (.iconst 0, 1) := by decide +kernel
theorem dX8_makeEmpty_20 : decode cX8_makeEmpty 20 = .ok (.putfield 26, 3) := by decide +kernel
theorem dX8_makeEmpty_23 : decode cX8_makeEmpty 23 = .ok (.aload_n 0, 1) := by decide +kernel
theorem dX8_makeEmpty_24 : decode cX8_makeEmpty 24 = .ok (.iconst 2, 1) := by decide +kernel
theorem dX8_makeEmpty_25 : decode cX8_makeEmpty 25 = .ok (.putfield 29, 3) := by decide +kernel
theorem dX8_makeEmpty_28 : decode cX8_makeEmpty 28 = .ok (.return_, 1) := by decide +kernel
theorem dX8_copyFrom_0 : decode cX8_copyFrom 0 = .ok (.aload_n 1, 1) := by decide +kernel
theorem dX8_copyFrom_1 : decode cX8_copyFrom 1 = .ok (.getfield 9, 3) := by decide +kernel
theorem dX8_copyFrom_4 : decode cX8_copyFrom 4 = .ok (.iconst 0, 1) := by decide +kernel
theorem dX8_copyFrom_5 : decode cX8_copyFrom 5 = .ok (.aload_n 0, 1) := by decide +kernel
theorem dX8_copyFrom_6 : decode cX8_copyFrom 6 = .ok (.getfield 9, 3) := by decide +kernel
theorem dX8_copyFrom_9 : decode cX8_copyFrom 9 = .ok (.iconst 0, 1) := by decide +kernel
theorem dX8_copyFrom_10 : decode cX8_copyFrom 10 = .ok (.bipush 8, 2) := by decide +kernel
theorem dX8_copyFrom_12 : decode cX8_copyFrom 12 = .ok (.invokestatic 38, 3) := by decide +kernel
theorem dX8_copyFrom_15 : decode cX8_copyFrom 15 = .ok (.aload_n 1, 1) := by decide +kernel
theorem dX8_copyFrom_16 : decode cX8_copyFrom 16 = .ok (.getfield 15, 3) := by decide +kernel
theorem dX8_copyFrom_19 : decode cX8_copyFrom 19 = .ok (.iconst 0, 1) := by decide +kernel
theorem dX8_copyFrom_20 : decode cX8_copyFrom 20 = .ok (.aload_n 0, 1) := by decide +kernel
theorem dX8_copyFrom_21 : decode cX8_copyFrom 21 = .ok (.getfield 15, 3) := by decide +kernel
theorem dX8_copyFrom_24 : decode cX8_copyFrom 24 = .ok (.iconst 0, 1) := by decide +kernel
theorem dX8_copyFrom_25 : decode cX8_copyFrom 25 = .ok (.bipush 64, 2) := by decide +kernel
theorem dX8_copyFrom_27 : decode cX8_copyFrom 27 = .ok (.invokestatic 38, 3) := by decide +kernel
theorem dX8_copyFrom_30 : decode cX8_copyFrom 30 = .ok (.aload_n 0, 1) := by decide +kernel
theorem dX8_copyFrom_31 : decode cX8_copyFrom 31 = .ok (.aload_n 1, 1) := by decide +kernel
theorem dX8_copyFrom_32 : decode cX8_copyFrom 32 = .ok (.getfield 18, 3) := by decide +kernel
theorem dX8_copyFrom_35 : decode cX8_copyFrom 35 = .ok (.putfield 18, 3) := by decide +kernel
theorem dX8_copyFrom_38 : decode cX8_copyFrom 38 = .ok (.aload_n 0, 1) := by decide +kernel
theorem dX8_copyFrom_39 : decode cX8_copyFrom 39 = .ok (.aload_n 1, 1) := by decide +kernel
theorem dX8_copyFrom_40 : decode cX8_copyFrom 40 = .ok (.getfield 22, 3) := by decide +kernel
theorem dX8_copyFrom_43 : decode cX8_copyFrom 43 = .ok (.putfield 22, 3) := by decide +kernel
theorem dX8_copyFrom_46 : decode cX8_copyFrom 46 = .ok (.aload_n 0, 1) := by decide +kernel
theorem dX8_copyFrom_47 : decode cX8_copyFrom 47 = .ok (.aload_n 1, 1) := by decide +kernel
theorem dX8_copyFrom_48 : decode cX8_copyFrom 48 = .ok (.getfield 26, 3) := by decide +kernel
theorem dX8_copyFrom_51 : decode cX8_copyFrom 51 = .ok (.putfield 26, 3) := by decide +kernel
theorem dX8_copyFrom_54 : decode cX8_copyFrom 54 = .ok (.aload_n 0, 1) := by decide +kernel
theorem dX8_copyFrom_55 : decode cX8_copyFrom 55 = .ok (.aload_n 1, 1) := by decide +kernel
theorem dX8_copyFrom_56 : decode cX8_copyFrom 56 = .ok (.getfield 29, 3) := by decide +kernel
theorem dX8_copyFrom_59 : decode cX8_copyFrom 59 = .ok (.putfield 29, 3) := by decide +kernel
theorem dX8_copyFrom_62 : decode cX8_copyFrom 62 = .ok (.return_, 1) := by decide +kernel
set_option maxRecDepth 20000 in
theorem ggX8_apply_X9_isIn : GoodIn wsX8_apply wsX9_isIn := goodIn_r _ [9] (by decide +kernel) (by decide +kernel)
set_option maxRecDepth 20000 in
theorem gX8_apply_X9_isIn_n49 : GoodIn wsX8_apply (wsX9_isIn) := ggX8_apply_X9_isIn
set_option maxRecDepth 20000 in
theorem ggX8_apply_X9_setOf : GoodIn wsX8_apply wsX9_setOf := goodIn_r _ [11] (by decide +kernel) (by decide +kernel)
set_option maxRecDepth 20000 in
theorem gX8_apply_X9_setOf_n53 : GoodIn wsX8_apply (wsX9_setOf) := ggX8_apply_X9_setOf
theorem dX8_apply_0 : decode cX8_apply 0 = .ok (.iconst 0, 1) := by decide +kernel
theorem dX8_apply_1 : decode cX8_apply 1 = .ok (.istore_n 2, 1) := by decide +kernel
theorem dX8_apply_2 : decode cX8_apply 2 = .ok (.iload_n 2, 1) := by decide +kernel
theorem dX8_apply_3 : decode cX8_apply 3 = .ok (.bipush 64, 2) := by decide +kernel
theorem dX8_apply_5 : decode cX8_apply 5 = .ok (.if_icmp .ge 76, 3) := by decide +kernel
theorem dX8_apply_8 : decode cX8_apply 8 = .ok (.aload_n 1, 1) := by decide +kernel
theorem dX8_apply_9 : decode cX8_apply 9 = .ok (.getfield 44, 3) := by decide +kernel
theorem dX8_apply_12 : decode cX8_apply 12 = .ok (.iload_n 2, 1) := by decide +kernel
theorem dX8_apply_13 : decode cX8_apply 13 = .ok (.invokestatic 49, 3) := by decide +kernel
theorem dX8_apply_16 : decode cX8_apply 16 = .ok (.ifCond .eq 23, 3) := by decide +kernel
theorem dX8_apply_19 : decode cX8_apply 19 = .ok (.aload_n 0, 1) := by decide +kernel
theorem dX8_apply_20 : decode cX8_apply 20 = .ok (.dup, 1) := by decide +kernel
theorem dX8_apply_21 : decode cX8_apply 21 = .ok (.getfield 18, 3) := by decide +kernel
theorem dX8_apply_24 : decode cX8_apply 24 = .ok (.iload_n 2, 1) := by decide +kernel
theorem dX8_apply_25 : decode cX8_apply 25 = .ok (.invokestatic 53, 3) := by decide +kernel
theorem dX8_apply_28 : decode cX8_apply 28 = .ok (.ldc2_w 57, 3) := by decide +kernel
theorem dX8_apply_31 : decode cX8_apply 31 = .ok (.lxor, 1) := by decide +kernel
theorem dX8_apply_32 : decode cX8_apply 32 = .ok (.land, 1) := by decide +kernel
theorem dX8_apply_33 : decode cX8_apply 33 = .ok (.putfield 18, 3) := by decide +kernel
theorem dX8_apply_36 : decode cX8_apply 36 = .ok (.goto 39, 3) := by decide +kernel
theorem dX8_apply_39 : decode cX8_apply 39 = .ok (.aload_n 1, 1) := by decide +kernel
theorem dX8_apply_40 : decode cX8_apply 40 = .ok (.getfield 59, 3) := by decide +kernel
theorem dX8_apply_43 : decode cX8_apply 43 = .ok (.iload_n 2, 1) := by decide +kernel
theorem dX8_apply_44 : decode cX8_apply 44 = .ok (.invokestatic 49, 3) := by decide +kernel
theorem dX8_apply_47 : decode cX8_apply 47 = .ok (.ifCond .eq 28, 3) := by decide +kernel
theorem dX8_apply_50 : decode cX8_apply 50 = .ok (.aload_n 0, 1) := by decide +kernel
theorem dX8_apply_51 : decode cX8_apply 51 = .ok (.dup, 1) := by decide +kernel
theorem dX8_apply_52 : decode cX8_apply 52 = .ok (.getfield 18, 3) := by decide +kernel
theorem dX8_apply_55 : decode cX8_apply 55 = .ok (.iload_n 2, 1) := by decide +kernel
theorem dX8_apply_56 : decode cX8_apply 56 = .ok (.invokestatic 53, 3) := by decide +kernel
theorem dX8_apply_59 : decode cX8_apply 59 = .ok (.lor, 1) := by decide +kernel
theorem dX8_apply_60 : decode cX8_apply 60 = .ok (.putfield 18, 3) := by decide +kernel
theorem dX8_apply_63 : decode cX8_apply 63 = .ok (.aload_n 0, 1) := by decide +kernel
theorem dX8_apply_64 : decode cX8_apply 64 = .ok (.getfield 15, 3) := by decide +kernel
theorem dX8_apply_67 : decode cX8_apply 67 = .ok (.iload_n 2, 1) := by decide +kernel
theorem dX8_apply_68 : decode cX8_apply 68 = .ok (.aload_n 1, 1) := by decide +kernel
theorem dX8_apply_69 : decode cX8_apply 69 = .ok (.getfield 62, 3) := by decide +kernel
theorem dX8_apply_72 : decode cX8_apply 72 = .ok (.iload_n 2, 1) := by decide +kernel
theorem dX8_apply_73 : decode cX8_apply 73 = .ok (.iaload, 1) := by decide +kernel
theorem dX8_apply_74 : decode cX8_apply 74 = .ok (.iastore, 1) := by decide +kernel
theorem dX8_apply_75 : decode cX8_apply 75 = .ok (.iinc 2 1, 3) := by decide +kernel
theorem dX8_apply_78 : decode cX8_apply 78 = .ok (.goto (-76), 3) := by decide +kernel
theorem dX8_apply_81 : decode cX8_apply 81 = .ok (.return_, 1) := by decide +kernel
set_option maxRecDepth 20000 in
theorem ggX8_load_X1_isDataBlock : GoodIn wsX8_load wsX1_isDataBlock := goodIn_r _ [10] (by decide +kernel) (by decide +kernel)
set_option maxRecDepth 20000 in
theorem gX8_load_X1_isDataBlock : GoodIn wsX8_load (va_wsS RX8 69 yX1_isDataBlock wsX1_isDataBlock) := goodIn_app (goodIn_of _ (by decide +kernel)) ggX8_load_X1_isDataBlock
set_option maxRecDepth 20000 in
theorem ggX8_load_X8_loadPage : GoodIn wsX8_load wsX8_loadPage := goodIn_r _ [15, 5, 16, 17, 18, 19, 20, 21, 14, 22, 23, 24, 25, 26, 27, 28, 29, 30] (by decide +kernel) (by decide +kernel)
set_option maxRecDepth 20000 in
theorem gX8_load_X8_loadPage : GoodIn wsX8_load (wsV RX8 73 RX8 yX8_loadPage wsX8_loadPage) := goodIn_app (goodIn_of _ (by decide +kernel)) ggX8_load_X8_loadPage
theorem dX8_load_0 : decode cX8_load 0 = .ok (.aload_n 0, 1) := by decide +kernel
theorem dX8_load_1 : decode cX8_load 1 = .ok (.iload_n 2, 1) := by decide +kernel
theorem dX8_load_2 : decode cX8_load 2 = .ok (.putfield 26, 3) := by decide +kernel
theorem dX8_load_5 : decode cX8_load 5 = .ok (.aload_n 0, 1) := by decide +kernel
theorem dX8_load_6 : decode cX8_load 6 = .ok (.aload_n 1, 1) := by decide +kernel
theorem dX8_load_7 : decode cX8_load 7 = .ok (.getfield 63, 3) := by decide +kernel
theorem dX8_load_10 : decode cX8_load 10 = .ok (.iload_n 2, 1) := by decide +kernel
theorem dX8_load_11 : decode cX8_load 11 = .ok (.aaload, 1) := by decide +kernel
theorem dX8_load_12 : decode cX8_load 12 = .ok (.iconst 1, 1) := by decide +kernel
theorem dX8_load_13 : decode cX8_load 13 = .ok (.iaload, 1) := by decide +kernel
theorem dX8_load_14 : decode cX8_load 14 = .ok (.putfield 22, 3) := by decide +kernel
theorem dX8_load_17 : decode cX8_load 17 = .ok (.aload_n 0, 1) := by decide +kernel
theorem dX8_load_18 : decode cX8_load 18 = .ok (.aload_n 1, 1) := by decide +kernel
theorem dX8_load_19 : decode cX8_load 19 = .ok (.getfield 63, 3) := by decide +kernel
theorem dX8_load_22 : decode cX8_load 22 = .ok (.iload_n 2, 1) := by decide +kernel
theorem dX8_load_23 : decode cX8_load 23 = .ok (.aaload, 1) := by decide +kernel
theorem dX8_load_24 : decode cX8_load 24 = .ok (.iconst 2, 1) := by decide +kernel
theorem dX8_load_25 : decode cX8_load 25 = .ok (.iaload, 1) := by decide +kernel
theorem dX8_load_26 : decode cX8_load 26 = .ok (.putfield 29, 3) := by decide +kernel
theorem dX8_load_29 : decode cX8_load 29 = .ok (.aload_n 0, 1) := by decide +kernel
theorem dX8_load_30 : decode cX8_load 30 = .ok (.lconst 0, 1) := by decide +kernel
theorem dX8_load_31 : decode cX8_load 31 = .ok (.putfield 18, 3) := by decide +kernel
theorem dX8_load_34 : decode cX8_load 34 = .ok (.iconst 0, 1) := by decide +kernel
theorem dX8_load_35 : decode cX8_load 35 = .ok (.istore_n 3, 1) := by decide +kernel
theorem dX8_load_36 : decode cX8_load 36 = .ok (.iload_n 3, 1) := by decide +kernel
theorem dX8_load_37 : decode cX8_load 37 = .ok (.bipush 8, 2) := by decide +kernel
theorem dX8_load_39 : decode cX8_load 39 = .ok (.if_icmp .ge 56, 3) := by decide +kernel
theorem dX8_load_42 : decode cX8_load 42 = .ok (.aload_n 0, 1) := by decide +kernel
theorem dX8_load_43 : decode cX8_load 43 = .ok (.getfield 9, 3) := by decide +kernel
theorem dX8_load_46 : decode cX8_load 46 = .ok (.iload_n 3, 1) := by decide +kernel
theorem dX8_load_47 : decode cX8_load 47 = .ok (.aload_n 1, 1) := by decide +kernel
theorem dX8_load_48 : decode cX8_load 48 = .ok (.getfield 63, 3) := by decide +kernel
theorem dX8_load_51 : decode cX8_load 51 = .ok (.aload_n 0, 1) := by decide +kernel
theorem dX8_load_52 : decode cX8_load 52 = .ok (.getfield 29, 3) := by decide +kernel
theorem dX8_load_55 : decode cX8_load 55 = .ok (.aaload, 1) := by decide +kernel
theorem dX8_load_56 : decode cX8_load 56 = .ok (.iconst 4, 1) := by decide +kernel
theorem dX8_load_57 : decode cX8_load 57 = .ok (.iload_n 3, 1) := by decide +kernel
theorem dX8_load_58 : decode cX8_load 58 = .ok (.iadd, 1) := by decide +kernel
theorem dX8_load_59 : decode cX8_load 59 = .ok (.iaload, 1) := by decide +kernel
theorem dX8_load_60 : decode cX8_load 60 = .ok (.iastore, 1) := by decide +kernel
theorem dX8_load_61 : decode cX8_load 61 = .ok (.aload_n 0, 1) := by decide +kernel
theorem dX8_load_62 : decode cX8_load 62 = .ok (.getfield 9, 3) := by decide +kernel
theorem dX8_load_65 : decode cX8_load 65 = .ok (.iload_n 3, 1) := by decide +kernel
theorem dX8_load_66 : decode cX8_load 66 = .ok (.iaload, 1) := by decide +kernel
theorem dX8_load_67 : decode cX8_load 67 = .ok (.invokestatic 69, 3) := by decide +kernel
theorem dX8_load_70 : decode cX8_load 70 = .ok (.ifCond .eq 19, 3) := by decide +kernel
theorem dX8_load_73 : decode cX8_load 73 = .ok (.aload_n 0, 1) := by decide +kernel
theorem dX8_load_74 : decode cX8_load 74 = .ok (.aload_n 1, 1) := by decide +kernel
theorem dX8_load_75 : decode cX8_load 75 = .ok (.getfield 63, 3) := by decide +kernel
theorem dX8_load_78 : decode cX8_load 78 = .ok (.aload_n 0, 1) := by decide +kernel
theorem dX8_load_79 : decode cX8_load 79 = .ok (.getfield 9, 3) := by decide +kernel
theorem dX8_load_82 : decode cX8_load 82 = .ok (.iload_n 3, 1) := by decide +kernel
theorem dX8_load_83 : decode cX8_load 83 = .ok (.iaload, 1) := by decide +kernel
theorem dX8_load_84 : decode cX8_load 84 = .ok (.aaload, 1) := by decide +kernel
theorem dX8_load_85 : decode cX8_load 85 = .ok (.iload_n 3, 1) := by decide +kernel
theorem dX8_load_86 : decode cX8_load 86 = .ok (.invokevirtual 73, 3) := by decide +kernel
theorem dX8_load_89 : decode cX8_load 89 = .ok (.iinc 3 1, 3) := by decide +kernel
theorem dX8_load_92 : decode cX8_load 92 = .ok (.goto (-56), 3) := by decide +kernel
theorem dX8_load_95 : decode cX8_load 95 = .ok (.return_, 1) := by decide +kernel
set_option maxRecDepth 20000 in
theorem ggX8_loadPage_X9_isIn : GoodIn wsX8_loadPage wsX9_isIn := goodIn_r _ [5] (by decide +kernel) (by decide +kernel)
set_option maxRecDepth 20000 in
theorem gX8_loadPage_X9_isIn_n49 : GoodIn wsX8_loadPage (wsX9_isIn) := ggX8_loadPage_X9_isIn
set_option maxRecDepth 20000 in
theorem ggX8_loadPage_X8_keyOf : GoodIn wsX8_loadPage wsX8_keyOf := goodIn_r _ [9] (by decide +kernel) (by decide +kernel)
set_option maxRecDepth 20000 in
theorem gX8_loadPage_X8_keyOf : GoodIn wsX8_loadPage (va_wsS RX8 76 yX8_keyOf wsX8_keyOf) := goodIn_app (goodIn_of _ (by decide +kernel)) ggX8_loadPage_X8_keyOf
set_option maxRecDepth 20000 in
theorem ggX8_loadPage_X9_setOf : GoodIn wsX8_loadPage wsX9_setOf := goodIn_r _ [11] (by decide +kernel) (by decide +kernel)
set_option maxRecDepth 20000 in
theorem gX8_loadPage_X9_setOf_n53 : GoodIn wsX8_loadPage (wsX9_setOf) := ggX8_loadPage_X9_setOf
theorem dX8_loadPage_0 : decode cX8_loadPage 0 = .ok (.iconst 0, 1) := by decide +kernel
theorem dX8_loadPage_1 : decode cX8_loadPage 1 = .ok (.istore_n 3, 1) := by decide +kernel
theorem dX8_loadPage_2 : decode cX8_loadPage 2 = .ok (.iload_n 3, 1) := by decide +kernel
theorem dX8_loadPage_3 : decode cX8_loadPage 3 = .ok (.bipush 8, 2) := by decide +kernel
theorem dX8_loadPage_5 : decode cX8_loadPage 5 = .ok (.if_icmp .ge 53, 3) := by decide +kernel
theorem dX8_loadPage_8 : decode cX8_loadPage 8 = .ok (.aload_n 1, 1) := by decide +kernel
theorem dX8_loadPage_9 : decode cX8_loadPage 9 = .ok (.iconst 3, 1) := by decide +kernel
theorem dX8_loadPage_10 : decode cX8_loadPage 10 = .ok (.iaload, 1) := by decide +kernel
theorem dX8_loadPage_11 : decode cX8_loadPage 11 = .ok (.i2l, 1) := by decide +kernel
theorem dX8_loadPage_12 : decode cX8_loadPage 12 = .ok (.iload_n 3, 1) := by decide +kernel
theorem dX8_loadPage_13 : decode cX8_loadPage 13 = .ok (.invokestatic 49, 3) := by decide +kernel
theorem dX8_loadPage_16 : decode cX8_loadPage 16 = .ok (.ifCond .eq 36, 3) := by decide +kernel
theorem dX8_loadPage_19 : decode cX8_loadPage 19 = .ok (.iload_n 2, 1) := by decide +kernel
theorem dX8_loadPage_20 : decode cX8_loadPage 20 = .ok (.iload_n 3, 1) := by decide +kernel
theorem dX8_loadPage_21 : decode cX8_loadPage 21 = .ok (.invokestatic 76, 3) := by decide +kernel
theorem dX8_loadPage_24 : decode cX8_loadPage 24 = .ok (.istore 4, 2) := by decide +kernel
theorem dX8_loadPage_26 : decode cX8_loadPage 26 = .ok (.aload_n 0, 1) := by decide +kernel
theorem dX8_loadPage_27 : decode cX8_loadPage 27 = .ok (.dup, 1) := by decide +kernel
theorem dX8_loadPage_28 : decode cX8_loadPage 28 = .ok (.getfield 18, 3) := by decide +kernel
theorem dX8_loadPage_31 : decode cX8_loadPage 31 = .ok (.iload 4, 2) := by decide +kernel
theorem dX8_loadPage_33 : decode cX8_loadPage 33 = .ok (.invokestatic 53, 3) := by decide +kernel
theorem dX8_loadPage_36 : decode cX8_loadPage 36 = .ok (.lor, 1) := by decide +kernel
theorem dX8_loadPage_37 : decode cX8_loadPage 37 = .ok (.putfield 18, 3) := by decide +kernel
theorem dX8_loadPage_40 : decode cX8_loadPage 40 = .ok (.aload_n 0, 1) := by decide +kernel
theorem dX8_loadPage_41 : decode cX8_loadPage 41 = .ok (.getfield 15, 3) := by decide +kernel
theorem dX8_loadPage_44 : decode cX8_loadPage 44 = .ok (.iload 4, 2) := by decide +kernel
theorem dX8_loadPage_46 : decode cX8_loadPage 46 = .ok (.aload_n 1, 1) := by decide +kernel
theorem dX8_loadPage_47 : decode cX8_loadPage 47 = .ok (.iconst 4, 1) := by decide +kernel
theorem dX8_loadPage_48 : decode cX8_loadPage 48 = .ok (.iload_n 3, 1) := by decide +kernel
theorem dX8_loadPage_49 : decode cX8_loadPage 49 = .ok (.iadd, 1) := by decide +kernel
theorem dX8_loadPage_50 : decode cX8_loadPage 50 = .ok (.iaload, 1) := by decide +kernel
theorem dX8_loadPage_51 : decode cX8_loadPage 51 = .ok (.iastore, 1) := by decide +kernel
theorem dX8_loadPage_52 : decode cX8_loadPage 52 = .ok (.iinc 3 1, 3) := by decide +kernel
theorem dX8_loadPage_55 : decode cX8_loadPage 55 = .ok (.goto (-53), 3) := by decide +kernel
theorem dX8_loadPage_58 : decode cX8_loadPage 58 = .ok (.return_, 1) := by decide +kernel
set_option maxRecDepth 20000 in
theorem ggX8_bitsOf_X8_keyOf : GoodIn wsX8_bitsOf wsX8_keyOf := goodIn_r _ [5] (by decide +kernel) (by decide +kernel)
set_option maxRecDepth 20000 in
theorem gX8_bitsOf_X8_keyOf : GoodIn wsX8_bitsOf (va_wsS RX8 76 yX8_keyOf wsX8_keyOf) := goodIn_app (goodIn_of _ (by decide +kernel)) ggX8_bitsOf_X8_keyOf
set_option maxRecDepth 20000 in
theorem ggX8_bitsOf_X9_isIn : GoodIn wsX8_bitsOf wsX9_isIn := goodIn_r _ [8] (by decide +kernel) (by decide +kernel)
set_option maxRecDepth 20000 in
theorem gX8_bitsOf_X9_isIn_n49 : GoodIn wsX8_bitsOf (wsX9_isIn) := ggX8_bitsOf_X9_isIn
theorem dX8_bitsOf_0 : decode cX8_bitsOf 0 = .ok (.iconst 0, 1) := by decide +kernel
theorem dX8_bitsOf_1 : decode cX8_bitsOf 1 = .ok (.istore_n 2, 1) := by decide +kernel
theorem dX8_bitsOf_2 : decode cX8_bitsOf 2 = .ok (.iconst 0, 1) := by decide +kernel
theorem dX8_bitsOf_3 : decode cX8_bitsOf 3 = .ok (.istore_n 3, 1) := by decide +kernel
theorem dX8_bitsOf_4 : decode cX8_bitsOf 4 = .ok (.iload_n 3, 1) := by decide +kernel
theorem dX8_bitsOf_5 : decode cX8_bitsOf 5 = .ok (.bipush 8, 2) := by decide +kernel
theorem dX8_bitsOf_7 : decode cX8_bitsOf 7 = .ok (.if_icmp .ge 30, 3) := by decide +kernel
theorem dX8_bitsOf_10 : decode cX8_bitsOf 10 = .ok (.aload_n 0, 1) := by decide +kernel
theorem dX8_bitsOf_11 : decode cX8_bitsOf 11 = .ok (.getfield 18, 3) := by decide +kernel
theorem dX8_bitsOf_14 : decode cX8_bitsOf 14 = .ok (.iload_n 1, 1) := by decide +kernel
theorem dX8_bitsOf_15 : decode cX8_bitsOf 15 = .ok (.iload_n 3, 1) := by decide +kernel
theorem dX8_bitsOf_16 : decode cX8_bitsOf 16 = .ok (.invokestatic 76, 3) := by decide +kernel
theorem dX8_bitsOf_19 : decode cX8_bitsOf 19 = .ok (.invokestatic 49, 3) := by decide +kernel
theorem dX8_bitsOf_22 : decode cX8_bitsOf 22 = .ok (.ifCond .eq 9, 3) := by decide +kernel
theorem dX8_bitsOf_25 : decode cX8_bitsOf 25 = .ok (.iload_n 2, 1) := by decide +kernel
theorem dX8_bitsOf_26 : decode cX8_bitsOf 26 = .ok (.iconst 1, 1) := by decide +kernel
theorem dX8_bitsOf_27 : decode cX8_bitsOf 27 = .ok (.iload_n 3, 1) := by decide +kernel
theorem dX8_bitsOf_28 : decode cX8_bitsOf 28 = .ok (.ishl, 1) := by decide +kernel
theorem dX8_bitsOf_29 : decode cX8_bitsOf 29 = .ok (.ior, 1) := by decide +kernel
theorem dX8_bitsOf_30 : decode cX8_bitsOf 30 = .ok (.istore_n 2, 1) := by decide +kernel
theorem dX8_bitsOf_31 : decode cX8_bitsOf 31 = .ok (.iinc 3 1, 3) := by decide +kernel
theorem dX8_bitsOf_34 : decode cX8_bitsOf 34 = .ok (.goto (-30), 3) := by decide +kernel
theorem dX8_bitsOf_37 : decode cX8_bitsOf 37 = .ok (.iload_n 2, 1) := by decide +kernel
theorem dX8_bitsOf_38 : decode cX8_bitsOf 38 = .ok (.ireturn, 1) := by decide +kernel
set_option maxRecDepth 20000 in
theorem ggX8_usedBlocks_X9_setOf : GoodIn wsX8_usedBlocks wsX9_setOf := goodIn_r _ [5] (by decide +kernel) (by decide +kernel)
set_option maxRecDepth 20000 in
theorem gX8_usedBlocks_X9_setOf_n53 : GoodIn wsX8_usedBlocks (wsX9_setOf) := ggX8_usedBlocks_X9_setOf
theorem dX8_usedBlocks_0 : decode cX8_usedBlocks 0 = .ok (.aload_n 0, 1) := by decide +kernel
theorem dX8_usedBlocks_1 : decode cX8_usedBlocks 1 = .ok (.getfield 29, 3) := by decide +kernel
theorem dX8_usedBlocks_4 : decode cX8_usedBlocks 4 = .ok (.invokestatic 53, 3) := by decide +kernel
theorem dX8_usedBlocks_7 : decode cX8_usedBlocks 7 = .ok (.lstore_n 1, 1) := by decide +kernel
theorem dX8_usedBlocks_8 : decode cX8_usedBlocks 8 = .ok (.iconst 0, 1) := by decide +kernel
theorem dX8_usedBlocks_9 : decode cX8_usedBlocks 9 = .ok (.istore_n 3, 1) := by decide +kernel
theorem dX8_usedBlocks_10 : decode cX8_usedBlocks 10 = .ok (.iload_n 3, 1) := by decide +kernel
theorem dX8_usedBlocks_11 : decode cX8_usedBlocks 11 = .ok (.bipush 8, 2) := by decide +kernel
theorem dX8_usedBlocks_13 : decode cX8_usedBlocks 13 = .ok (.if_icmp .ge 31, 3) := by decide +kernel
theorem dX8_usedBlocks_16 : decode cX8_usedBlocks 16 = .ok (.aload_n 0, 1) := by decide +kernel
theorem dX8_usedBlocks_17 : decode cX8_usedBlocks 17 = .ok (.getfield 9, 3) := by decide +kernel
theorem dX8_usedBlocks_20 : decode cX8_usedBlocks 20 = .ok (.iload_n 3, 1) := by decide +kernel
theorem dX8_usedBlocks_21 : decode cX8_usedBlocks 21 = .ok (.iaload, 1) := by decide +kernel
theorem dX8_usedBlocks_22 : decode cX8_usedBlocks 22 = .ok (.iconst (-1), 1) := by decide +kernel
theorem dX8_usedBlocks_23 : decode cX8_usedBlocks 23 = .ok (.if_icmp .eq 15, 3) := by decide +kernel
theorem dX8_usedBlocks_26 : decode cX8_usedBlocks 26 = .ok (.lload_n 1, 1) := by decide +kernel
theorem dX8_usedBlocks_27 : decode cX8_usedBlocks 27 = .ok (.aload_n 0, 1) := by decide +kernel
theorem dX8_usedBlocks_28 : decode cX8_usedBlocks 28 = .ok (.getfield 9, 3) := by decide +kernel
theorem dX8_usedBlocks_31 : decode cX8_usedBlocks 31 = .ok (.iload_n 3, 1) := by decide +kernel
theorem dX8_usedBlocks_32 : decode cX8_usedBlocks 32 = .ok (.iaload, 1) := by decide +kernel
theorem dX8_usedBlocks_33 : decode cX8_usedBlocks 33 = .ok (.invokestatic 53, 3) := by decide +kernel
theorem dX8_usedBlocks_36 : decode cX8_usedBlocks 36 = .ok (.lor, 1) := by decide +kernel
theorem dX8_usedBlocks_37 : decode cX8_usedBlocks 37 = .ok (.lstore_n 1, 1) := by decide +kernel
theorem dX8_usedBlocks_38 : decode cX8_usedBlocks 38 = .ok (.iinc 3 1, 3) := by decide +kernel
theorem dX8_usedBlocks_41 : decode cX8_usedBlocks 41 = .ok (.goto (-31), 3) := by decide +kernel
theorem dX8_usedBlocks_44 : decode cX8_usedBlocks 44 = .ok (.lload_n 1, 1) := by decide +kernel
theorem dX8_usedBlocks_45 : decode cX8_usedBlocks 45 = .ok (.lreturn, 1) := by decide +kernel
set_option maxRecDepth 20000 in
theorem ggX8_differentKeys_X9_isIn : GoodIn wsX8_differentKeys wsX9_isIn := goodIn_r _ [5] (by decide +kernel) (by decide +kernel)
set_option maxRecDepth 20000 in
theorem gX8_differentKeys_X9_isIn_n49 : GoodIn wsX8_differentKeys (wsX9_isIn) := ggX8_differentKeys_X9_isIn
set_option maxRecDepth 20000 in
theorem ggX8_differentKeys_X9_setOf : GoodIn wsX8_differentKeys wsX9_setOf := goodIn_r _ [7] (by decide +kernel) (by decide +kernel)
set_option maxRecDepth 20000 in
theorem gX8_differentKeys_X9_setOf_n53 : GoodIn wsX8_differentKeys (wsX9_setOf) := ggX8_differentKeys_X9_setOf
theorem dX8_differentKeys_0 : decode cX8_differentKeys 0 = .ok (.aload_n 0, 1) := by decide +kernel
theorem dX8_differentKeys_1 : decode cX8_differentKeys 1 = .ok (.getfield 18, 3) := by decide +kernel
theorem dX8_differentKeys_4 : decode cX8_differentKeys 4 = .ok (.aload_n 1, 1) := by decide +kernel
theorem dX8_differentKeys_5 : decode cX8_differentKeys 5 = .ok (.getfield 18, 3) := by decide +kernel
theorem dX8_differentKeys_8 : decode cX8_differentKeys 8 = .ok (.lxor, 1) := by decide +kernel
theorem dX8_differentKeys_9 : decode cX8_differentKeys 9 = .ok (.lstore_n 2, 1) := by decide +kernel
theorem dX8_differentKeys_10 : decode cX8_differentKeys 10 = .ok (.iconst 0, 1) := by decide +kernel
theorem dX8_differentKeys_11 : decode cX8_differentKeys 11 = .ok (.istore 4, 2) := by decide +kernel
theorem dX8_differentKeys_13 : decode cX8_differentKeys 13 = .ok (.iload 4, 2) := by decide +kernel
theorem dX8_differentKeys_15 : decode cX8_differentKeys 15 = .ok (.bipush 64, 2) := by decide +kernel
theorem dX8_differentKeys_17 : decode cX8_differentKeys 17 = .ok (.if_icmp .ge 51, 3) := by decide +kernel
theorem dX8_differentKeys_20 : decode cX8_differentKeys 20 = .ok (.aload_n 0, 1) := by decide +kernel
theorem dX8_differentKeys_21 : decode cX8_differentKeys 21 = .ok (.getfield 18, 3) := by decide +kernel
theorem dX8_differentKeys_24 : decode cX8_differentKeys 24 = .ok (.aload_n 1, 1) := by decide +kernel
theorem dX8_differentKeys_25 : decode cX8_differentKeys 25 = .ok (.getfield 18, 3) := by decide +kernel
theorem dX8_differentKeys_28 : decode cX8_differentKeys 28 = .ok (.land, 1) := by decide +kernel
theorem dX8_differentKeys_29 : decode cX8_differentKeys 29 = .ok (.iload 4, 2) := by decide +kernel
theorem dX8_differentKeys_31 : decode cX8_differentKeys 31 = .ok (.invokestatic 49, 3) := by decide +kernel
theorem dX8_differentKeys_34 : decode cX8_differentKeys 34 = .ok (.ifCond .eq 28, 3) := by decide +kernel
theorem dX8_differentKeys_37 : decode cX8_differentKeys 37 = .ok (.aload_n 0, 1) := by decide +kernel
theorem dX8_differentKeys_38 : decode cX8_differentKeys 38 = .ok (.getfield 15, 3) := by decide +kernel
theorem dX8_differentKeys_41 : decode cX8_differentKeys 41 = .ok (.iload 4, 2) := by decide +kernel
theorem dX8_differentKeys_43 : decode cX8_differentKeys 43 = .ok (.iaload, 1) := by decide +kernel
theorem dX8_differentKeys_44 : decode cX8_differentKeys 44 = .ok (.aload_n 1, 1) := by decide +kernel
