set_option maxRecDepth 20000 in
theorem ggX6_init_X4_init : GoodIn wsX6_init wsX4_init := goodIn_r _ [20, 21, 2, 3, 22, 23, 24, 25, 26, 27, 28, 29, 30, 31, 32, 33, 34, 16, 17, 35, 36, 37, 38, 39, 40, 9, 41, 42, 43, 44, 45, 46, 47, 48, 49, 50, 51, 52, 53, 54, 55, 56, 57, 58, 59, 60, 61, 62, 63, 64, 65, 103, 104, 105, 106, 107, 108, 109, 110, 111, 112, 113, 76, 77, 78, 79, 80, 81, 114, 115, 116, 117, 118, 99, 100, 101, 102] (by decide +kernel) (by decide +kernel)
set_option maxRecDepth 20000 in
theorem gX6_init_X4_init_n11 : GoodIn wsX6_init (wsX4_init) := ggX6_init_X4_init
set_option maxRecDepth 20000 in
theorem ggX6_init_X1_init : GoodIn wsX6_init wsX1_init := goodIn_r _ [67, 68, 2, 3, 9, 69, 90, 91, 92, 93, 94, 95, 96, 97, 98] (by decide +kernel) (by decide +kernel)
set_option maxRecDepth 20000 in
theorem gX6_init_X1_init_n26 : GoodIn wsX6_init (wsX1_init) := ggX6_init_X1_init
set_option maxRecDepth 20000 in
theorem ggX6_init_X5_init : GoodIn wsX6_init wsX5_init := goodIn_r _ [56, 57, 2, 3, 58, 59, 60, 61, 62, 63, 9, 64, 99, 100, 101, 102] (by decide +kernel) (by decide +kernel)
set_option maxRecDepth 20000 in
theorem gX6_init_X5_init : GoodIn wsX6_init (wsX5_init) := ggX6_init_X5_init
set_option maxRecDepth 20000 in
theorem ggX6_init_X5_addRow : GoodIn wsX6_init wsX5_addRow := goodIn_r _ [74, 75, 62, 99, 100, 101, 102] (by decide +kernel) (by decide +kernel)
set_option maxRecDepth 20000 in
theorem gX6_init_X5_addRow : GoodIn wsX6_init (wsV RX6 40 RX5 yX5_addRow wsX5_addRow) := goodIn_app (goodIn_of _ (by decide +kernel)) ggX6_init_X5_addRow
theorem dX6_init_0 : decode cX6_init 0 = .ok (.aload_n 0, 1) := by decide +kernel
theorem dX6_init_1 : decode cX6_init 1 = .ok (.invokespecial 3, 3) := by decide +kernel
theorem dX6_init_4 : decode cX6_init 4 = .ok (.aload_n 0, 1) := by decide +kernel
theorem dX6_init_5 : decode cX6_init 5 = .ok (.new 9, 3) := by decide +kernel
theorem dX6_init_8 : decode cX6_init 8 = .ok (.dup, 1) := by decide +kernel
theorem dX6_init_9 : decode cX6_init 9 = .ok (.invokespecial 11, 3) := by decide +kernel
theorem dX6_init_12 : decode cX6_init 12 = .ok (.putfield 12, 3) := by decide +kernel
theorem dX6_init_15 : decode cX6_init 15 = .ok (.aload_n 0, 1) := by decide +kernel
theorem dX6_init_16 : decode cX6_init 16 = .ok (.iconst 4, 1) := by decide +kernel
theorem dX6_init_17 : decode cX6_init 17 = .ok (.anewarray 9, 3) := by decide +kernel
theorem dX6_init_20 : decode cX6_init 20 = .ok (.putfield 16, 3) := by decide +kernel
theorem dX6_init_23 : decode cX6_init 23 = .ok (.aload_n 0, 1) := by decide +kernel
theorem dX6_init_24 : decode cX6_init 24 = .ok (.bipush 60, 2) := by decide +kernel
theorem dX6_init_26 : decode cX6_init 26 = .ok (.newarray .int, 2) := by decide +kernel
theorem dX6_init_28 : decode cX6_init 28 = .ok (.putfield 20, 3) := by decide +kernel
theorem dX6_init_31 : decode cX6_init 31 = .ok (.aload_n 0, 1) := by decide +kernel
theorem dX6_init_32 : decode cX6_init 32 = .ok (.new 24, 3) := by decide +kernel
theorem dX6_init_35 : decode cX6_init 35 = .ok (.dup, 1) := by decide +kernel
theorem dX6_init_36 : decode cX6_init 36 = .ok (.invokespecial 26, 3) := by decide +kernel
theorem dX6_init_39 : decode cX6_init 39 = .ok (.putfield 27, 3) := by decide +kernel
theorem dX6_init_42 : decode cX6_init 42 = .ok (.aload_n 0, 1) := by decide +kernel
theorem dX6_init_43 : decode cX6_init 43 = .ok (.new 31, 3) := by decide +kernel
theorem dX6_init_46 : decode cX6_init 46 = .ok (.dup, 1) := by decide +kernel
theorem dX6_init_47 : decode cX6_init 47 = .ok (.iconst 1, 1) := by decide +kernel
theorem dX6_init_48 : decode cX6_init 48 = .ok (.bipush 22, 2) := by decide +kernel
theorem dX6_init_50 : decode cX6_init 50 = .ok (.invokespecial 33, 3) := by decide +kernel
theorem dX6_init_53 : decode cX6_init 53 = .ok (.putfield 36, 3) := by decide +kernel
theorem dX6_init_56 : decode cX6_init 56 = .ok (.iconst 0, 1) := by decide +kernel
theorem dX6_init_57 : decode cX6_init 57 = .ok (.istore_n 1, 1) := by decide +kernel
theorem dX6_init_58 : decode cX6_init 58 = .ok (.iload_n 1, 1) := by decide +kernel
theorem dX6_init_59 : decode cX6_init 59 = .ok (.aload_n 0, 1) := by decide +kernel
theorem dX6_init_60 : decode cX6_init 60 = .ok (.getfield 16, 3) := by decide +kernel
theorem dX6_init_63 : decode cX6_init 63 = .ok (.arraylength, 1) := by decide +kernel
theorem dX6_init_64 : decode cX6_init 64 = .ok (.if_icmp .ge 22, 3) := by decide +kernel
theorem dX6_init_67 : decode cX6_init 67 = .ok (.aload_n 0, 1) := by decide +kernel
theorem dX6_init_68 : decode cX6_init 68 = .ok (.getfield 16, 3) := by decide +kernel
theorem dX6_init_71 : decode cX6_init 71 = .ok (.iload_n 1, 1) := by decide +kernel
theorem dX6_init_72 : decode cX6_init 72 = .ok (.new 9, 3) := by decide +kernel
theorem dX6_init_75 : decode cX6_init 75 = .ok (.dup, 1) := by decide +kernel
theorem dX6_init_76 : decode cX6_init 76 = .ok (.invokespecial 11, 3) := by decide +kernel
theorem dX6_init_79 : decode cX6_init 79 = .ok (.aastore, 1) := by decide +kernel
theorem dX6_init_80 : decode cX6_init 80 = .ok (.iinc 1 1, 3) := by decide +kernel
theorem dX6_init_83 : decode cX6_init 83 = .ok (.goto (-25), 3) := by decide +kernel
theorem dX6_init_86 : decode cX6_init 86 = .ok (.aload_n 0, 1) := by decide +kernel
theorem dX6_init_87 : decode cX6_init 87 = .ok (.getfield 36, 3) := by decide +kernel
theorem dX6_init_90 : decode cX6_init 90 = .ok (.invokevirtual 40, 3) := by decide +kernel
theorem dX6_init_93 : decode cX6_init 93 = .ok (.pop, 1) := by decide +kernel
theorem dX6_init_94 : decode cX6_init 94 = .ok (.return_, 1) := by decide +kernel
set_option maxRecDepth 20000 in
theorem ggX6_set_X6_isIndex : GoodIn wsX6_set wsX6_isIndex := goodIn_r _ [9] (by decide +kernel) (by decide +kernel)
set_option maxRecDepth 20000 in
theorem gX6_set_X6_isIndex : GoodIn wsX6_set (va_wsS RX6 47 yX6_isIndex wsX6_isIndex) := goodIn_app (goodIn_of _ (by decide +kernel)) ggX6_set_X6_isIndex
set_option maxRecDepth 20000 in
theorem ggX6_set_X6_isWithin : GoodIn wsX6_set wsX6_isWithin := goodIn_r _ [12] (by decide +kernel) (by decide +kernel)
set_option maxRecDepth 20000 in
theorem gX6_set_X6_isWithin : GoodIn wsX6_set (va_wsS RX6 55 yX6_isWithin wsX6_isWithin) := goodIn_app (goodIn_of _ (by decide +kernel)) ggX6_set_X6_isWithin
set_option maxRecDepth 20000 in
theorem ggX6_set_X3_settingOf : GoodIn wsX6_set wsX3_settingOf := goodIn_r _ [17, 18, 130, 131, 132, 133, 134, 135, 136, 137, 138, 139, 140] (by decide +kernel) (by decide +kernel)
set_option maxRecDepth 20000 in
theorem gX6_set_X3_settingOf : GoodIn wsX6_set (wsV RX6 63 RX3 yX3_settingOf wsX3_settingOf) := goodIn_app (goodIn_of _ (by decide +kernel)) ggX6_set_X3_settingOf
set_option maxRecDepth 20000 in
theorem ggX6_set_X6_remember : GoodIn wsX6_set wsX6_remember := goodIn_r _ [22, 23, 24, 4, 25, 26, 27, 28, 29, 30, 31, 32, 33, 34, 35, 36, 37, 38, 39, 16, 40, 18, 41, 42, 43, 44, 45, 46, 47, 48, 49, 50, 51, 14, 15, 17, 52, 53, 54, 55, 56, 57, 7, 8, 9, 58, 59, 60, 61, 62, 63, 64, 65, 66, 67, 68, 69, 70, 71, 72, 73, 74, 75, 76, 77, 78, 79, 80, 81, 82, 83, 84, 85, 86, 87, 88, 89, 90, 91, 92, 93, 94, 95, 96, 97, 98, 99, 100, 101, 102, 103, 104, 105, 106, 107, 108, 109, 110, 111, 116, 117, 118, 119, 120, 121, 122, 123, 124, 125, 126, 127, 128, 129, 130, 131, 132, 133, 134, 135, 136, 137, 138, 139, 140, 141, 142, 143, 144, 145, 146, 147, 148, 149] (by decide +kernel) (by decide +kernel)
set_option maxRecDepth 20000 in
theorem gX6_set_X6_remember : GoodIn wsX6_set (wsV RX6 69 RX6 yX6_remember wsX6_remember) := goodIn_app (goodIn_of _ (by decide +kernel)) ggX6_set_X6_remember
set_option maxRecDepth 20000 in
theorem ggX6_set_X3_putSetting : GoodIn wsX6_set wsX3_putSetting := goodIn_r _ [115, 18, 7, 8, 9, 130, 131, 132, 133, 134, 135, 136, 137, 138, 139, 140] (by decide +kernel) (by decide +kernel)
set_option maxRecDepth 20000 in
theorem gX6_set_X3_putSetting : GoodIn wsX6_set (wsV RX6 72 RX3 yX3_putSetting wsX3_putSetting) := goodIn_app (goodIn_of _ (by decide +kernel)) ggX6_set_X3_putSetting
theorem dX6_set_0 : decode cX6_set 0 = .ok (.iload_n 1, 1) := by decide +kernel
theorem dX6_set_1 : decode cX6_set 1 = .ok (.getstatic 44, 3) := by decide +kernel
theorem dX6_set_4 : decode cX6_set 4 = .ok (.invokestatic 47, 3) := by decide +kernel
theorem dX6_set_7 : decode cX6_set 7 = .ok (.ifCond .eq 13, 3) := by decide +kernel
theorem dX6_set_10 : decode cX6_set 10 = .ok (.iload_n 1, 1) := by decide +kernel
theorem dX6_set_11 : decode cX6_set 11 = .ok (.getstatic 51, 3) := by decide +kernel
theorem dX6_set_14 : decode cX6_set 14 = .ok (.invokestatic 47, 3) := by decide +kernel
theorem dX6_set_17 : decode cX6_set 17 = .ok (.ifCond .ne 6, 3) := by decide +kernel
theorem dX6_set_20 : decode cX6_set 20 = .ok (.ldc 54, 2) := by decide +kernel
theorem dX6_set_22 : decode cX6_set 22 = .ok (.ireturn, 1) := by decide +kernel
theorem dX6_set_23 : decode cX6_set 23 = .ok (.iload_n 2, 1) := by decide +kernel
theorem dX6_set_24 : decode cX6_set 24 = .ok (.getstatic 44, 3) := by decide +kernel
theorem dX6_set_27 : decode cX6_set 27 = .ok (.iload_n 1, 1) := by decide +kernel
theorem dX6_set_28 : decode cX6_set 28 = .ok (.iaload, 1) := by decide +kernel
theorem dX6_set_29 : decode cX6_set 29 = .ok (.getstatic 51, 3) := by decide +kernel
theorem dX6_set_32 : decode cX6_set 32 = .ok (.iload_n 1, 1) := by decide +kernel
theorem dX6_set_33 : decode cX6_set 33 = .ok (.iaload, 1) := by decide +kernel
theorem dX6_set_34 : decode cX6_set 34 = .ok (.invokestatic 55, 3) := by decide +kernel
theorem dX6_set_37 : decode cX6_set 37 = .ok (.ifCond .ne 6, 3) := by decide +kernel
theorem dX6_set_40 : decode cX6_set 40 = .ok (.ldc 54, 2) := by decide +kernel
theorem dX6_set_42 : decode cX6_set 42 = .ok (.ireturn, 1) := by decide +kernel
theorem dX6_set_43 : decode cX6_set 43 = .ok (.aload_n 0, 1) := by decide +kernel
theorem dX6_set_44 : decode cX6_set 44 = .ok (.getfield 12, 3) := by decide +kernel
theorem dX6_set_47 : decode cX6_set 47 = .ok (.getfield 59, 3) := by decide +kernel
theorem dX6_set_50 : decode cX6_set 50 = .ok (.iload_n 1, 1) := by decide +kernel
theorem dX6_set_51 : decode cX6_set 51 = .ok (.invokevirtual 63, 3) := by decide +kernel
theorem dX6_set_54 : decode cX6_set 54 = .ok (.istore_n 3, 1) := by decide +kernel
theorem dX6_set_55 : decode cX6_set 55 = .ok (.aload_n 0, 1) := by decide +kernel
theorem dX6_set_56 : decode cX6_set 56 = .ok (.invokevirtual 69, 3) := by decide +kernel
theorem dX6_set_59 : decode cX6_set 59 = .ok (.aload_n 0, 1) := by decide +kernel
theorem dX6_set_60 : decode cX6_set 60 = .ok (.getfield 12, 3) := by decide +kernel
theorem dX6_set_63 : decode cX6_set 63 = .ok (.getfield 59, 3) := by decide +kernel
theorem dX6_set_66 : decode cX6_set 66 = .ok (.iload_n 1, 1) := by decide +kernel
theorem dX6_set_67 : decode cX6_set 67 = .ok (.iload_n 2, 1) := by decide +kernel
theorem dX6_set_68 : decode cX6_set 68 = .ok (.invokevirtual 72, 3) := by decide +kernel
theorem dX6_set_71 : decode cX6_set 71 = .ok (.iload_n 3, 1) := by decide +kernel
theorem dX6_set_72 : decode cX6_set 72 = .ok (.ireturn, 1) := by decide +kernel
set_option maxRecDepth 20000 in
theorem ggX6_setting_X6_isIndex : GoodIn wsX6_setting wsX6_isIndex := goodIn_r _ [8] (by decide +kernel) (by decide +kernel)
set_option maxRecDepth 20000 in
theorem gX6_setting_X6_isIndex : GoodIn wsX6_setting (va_wsS RX6 47 yX6_isIndex wsX6_isIndex) := goodIn_app (goodIn_of _ (by decide +kernel)) ggX6_setting_X6_isIndex
set_option maxRecDepth 20000 in
theorem ggX6_setting_X3_settingOf : GoodIn wsX6_setting wsX3_settingOf := goodIn_r _ [13, 14, 29, 30, 31, 32, 33, 34, 35, 36, 37, 38, 39] (by decide +kernel) (by decide +kernel)
set_option maxRecDepth 20000 in
theorem gX6_setting_X3_settingOf : GoodIn wsX6_setting (wsV RX6 63 RX3 yX3_settingOf wsX3_settingOf) := goodIn_app (goodIn_of _ (by decide +kernel)) ggX6_setting_X3_settingOf
theorem dX6_setting_0 : decode cX6_setting 0 = .ok (.iload_n 1, 1) := by decide +kernel
theorem dX6_setting_1 : decode cX6_setting 1 = .ok (.getstatic 44, 3) := by decide +kernel
theorem dX6_setting_4 : decode cX6_setting 4 = .ok (.invokestatic 47, 3) := by decide +kernel
theorem dX6_setting_7 : decode cX6_setting 7 = .ok (.ifCond .eq 17, 3) := by decide +kernel
theorem dX6_setting_10 : decode cX6_setting 10 = .ok (.aload_n 0, 1) := by decide +kernel
theorem dX6_setting_11 : decode cX6_setting 11 = .ok (.getfield 12, 3) := by decide +kernel
theorem dX6_setting_14 : decode cX6_setting 14 = .ok (.getfield 59, 3) := by decide +kernel
theorem dX6_setting_17 : decode cX6_setting 17 = .ok (.iload_n 1, 1) := by decide +kernel
theorem dX6_setting_18 : decode cX6_setting 18 = .ok (.invokevirtual 63, 3) := by decide +kernel
theorem dX6_setting_21 : decode cX6_setting 21 = .ok (.goto 5, 3) := by decide +kernel
theorem dX6_setting_24 : decode cX6_setting 24 = .ok (.ldc 54, 2) := by decide +kernel
theorem dX6_setting_26 : decode cX6_setting 26 = .ok (.ireturn, 1) := by decide +kernel
set_option maxRecDepth 20000 in
theorem ggX6_load_X6_isWithin : GoodIn wsX6_load wsX6_isWithin := goodIn_r _ [9] (by decide +kernel) (by decide +kernel)
set_option maxRecDepth 20000 in
theorem gX6_load_X6_isWithin : GoodIn wsX6_load (va_wsS RX6 55 yX6_isWithin wsX6_isWithin) := goodIn_app (goodIn_of _ (by decide +kernel)) ggX6_load_X6_isWithin
set_option maxRecDepth 20000 in
theorem ggX6_load_X6_remember : GoodIn wsX6_load wsX6_remember := goodIn_r _ [13, 14, 15, 3, 16, 17, 18, 19, 20, 21, 22, 23, 24, 25, 26, 27, 28, 29, 30, 31, 32, 33, 34, 35, 36, 37, 38, 39, 40, 41, 42, 43, 44, 45, 46, 47, 48, 49, 50, 51, 52, 53, 54, 8, 55, 56, 57, 58, 59, 60, 61, 62, 63, 64, 65, 66, 67, 68, 69, 70, 71, 72, 73, 74, 75, 76, 77, 78, 79, 80, 81, 82, 83, 84, 85, 86, 87, 88, 89, 90, 91, 92, 93, 94, 95, 96, 97, 98, 99, 100, 101, 102, 103, 104, 105, 106, 107, 108, 109, 114, 115, 116, 117, 118, 119, 120, 121, 122, 123, 124, 125, 126, 127, 128, 129, 130, 131, 132, 133, 134, 135, 136, 137, 138, 139, 140, 141, 142, 143, 144, 145, 146, 147] (by decide +kernel) (by decide +kernel)
set_option maxRecDepth 20000 in
theorem gX6_load_X6_remember : GoodIn wsX6_load (wsV RX6 69 RX6 yX6_remember wsX6_remember) := goodIn_app (goodIn_of _ (by decide +kernel)) ggX6_load_X6_remember
set_option maxRecDepth 20000 in
theorem ggX6_load_X3_putLoad : GoodIn wsX6_load wsX3_putLoad := goodIn_r _ [113, 34, 40, 128, 129, 130, 131, 132, 133, 134, 135, 136, 137, 138] (by decide +kernel) (by decide +kernel)
set_option maxRecDepth 20000 in
theorem gX6_load_X3_putLoad : GoodIn wsX6_load (wsV RX6 80 RX3 yX3_putLoad wsX3_putLoad) := goodIn_app (goodIn_of _ (by decide +kernel)) ggX6_load_X3_putLoad
theorem dX6_load_0 : decode cX6_load 0 = .ok (.iload_n 1, 1) := by decide +kernel
theorem dX6_load_1 : decode cX6_load 1 = .ok (.iconst 0, 1) := by decide +kernel
theorem dX6_load_2 : decode cX6_load 2 = .ok (.ldc 75, 2) := by decide +kernel
theorem dX6_load_4 : decode cX6_load 4 = .ok (.invokestatic 55, 3) := by decide +kernel
theorem dX6_load_7 : decode cX6_load 7 = .ok (.ifCond .ne 6, 3) := by decide +kernel
theorem dX6_load_10 : decode cX6_load 10 = .ok (.ldc 54, 2) := by decide +kernel
theorem dX6_load_12 : decode cX6_load 12 = .ok (.ireturn, 1) := by decide +kernel
theorem dX6_load_13 : decode cX6_load 13 = .ok (.aload_n 0, 1) := by decide +kernel
theorem dX6_load_14 : decode cX6_load 14 = .ok (.getfield 12, 3) := by decide +kernel
theorem dX6_load_17 : decode cX6_load 17 = .ok (.getfield 59, 3) := by decide +kernel
theorem dX6_load_20 : decode cX6_load 20 = .ok (.getfield 76, 3) := by decide +kernel
theorem dX6_load_23 : decode cX6_load 23 = .ok (.istore_n 2, 1) := by decide +kernel
theorem dX6_load_24 : decode cX6_load 24 = .ok (.aload_n 0, 1) := by decide +kernel
theorem dX6_load_25 : decode cX6_load 25 = .ok (.invokevirtual 69, 3) := by decide +kernel
theorem dX6_load_28 : decode cX6_load 28 = .ok (.aload_n 0, 1) := by decide +kernel
theorem dX6_load_29 : decode cX6_load 29 = .ok (.getfield 12, 3) := by decide +kernel
theorem dX6_load_32 : decode cX6_load 32 = .ok (.getfield 59, 3) := by decide +kernel
theorem dX6_load_35 : decode cX6_load 35 = .ok (.iload_n 1, 1) := by decide +kernel
theorem dX6_load_36 : decode cX6_load 36 = .ok (.invokevirtual 80, 3) := by decide +kernel
theorem dX6_load_39 : decode cX6_load 39 = .ok (.iload_n 2, 1) := by decide +kernel
theorem dX6_load_40 : decode cX6_load 40 = .ok (.ireturn, 1) := by decide +kernel
set_option maxRecDepth 20000 in
theorem ggX6_tick_X6_isWithin : GoodIn wsX6_tick wsX6_isWithin := goodIn_r _ [10] (by decide +kernel) (by decide +kernel)
set_option maxRecDepth 20000 in
theorem gX6_tick_X6_isWithin : GoodIn wsX6_tick (va_wsS RX6 55 yX6_isWithin wsX6_isWithin) := goodIn_app (goodIn_of _ (by decide +kernel)) ggX6_tick_X6_isWithin
set_option maxRecDepth 20000 in
theorem ggX6_tick_X6_remember : GoodIn wsX6_tick wsX6_remember := goodIn_r _ [14, 15, 16, 2, 17, 18, 19, 20, 21, 22, 23, 24, 25, 26, 27, 28, 29, 30, 31, 32, 33, 34, 35, 36, 37, 38, 39, 40, 41, 42, 43, 44, 45, 46, 47, 48, 49, 50, 51, 52, 53, 54, 55, 9, 56, 57, 58, 59, 60, 61, 62, 63, 64, 65, 66, 67, 68, 69, 70, 71, 72, 73, 74, 75, 76, 77, 78, 79, 80, 81, 82, 83, 84, 85, 86, 87, 88, 89, 90, 91, 92, 93, 94, 95, 96, 97, 98, 99, 100, 101, 102, 103, 104, 105, 106, 107, 108, 109, 110, 140, 141, 142, 143, 144, 145, 146, 147, 148, 149, 150, 151, 152, 153, 154, 155, 156, 157, 158, 159, 160, 161, 162, 163, 164, 165, 166, 167, 168, 169, 170, 171, 172, 173] (by decide +kernel) (by decide +kernel)
set_option maxRecDepth 20000 in
theorem gX6_tick_X6_remember : GoodIn wsX6_tick (wsV RX6 69 RX6 yX6_remember wsX6_remember) := goodIn_app (goodIn_of _ (by decide +kernel)) ggX6_tick_X6_remember
set_option maxRecDepth 20000 in
theorem ggX6_tick_X3_passTick : GoodIn wsX6_tick wsX3_passTick := goodIn_r _ [114, 36, 39, 45, 46, 47, 32, 48, 34, 115, 116, 117, 118, 35, 119, 120, 121, 122, 123, 124, 125, 126, 43, 44, 42, 41, 127, 103, 104, 105, 128, 129, 130, 131, 132, 133, 134, 40, 37, 135, 136, 137, 138, 154, 155, 156, 157, 158, 159, 160, 161, 162, 163, 164] (by decide +kernel) (by decide +kernel)
set_option maxRecDepth 20000 in
theorem gX6_tick_X3_passTick : GoodIn wsX6_tick (wsV RX6 88 RX3 yX3_passTick wsX3_passTick) := goodIn_app (goodIn_of _ (by decide +kernel)) ggX6_tick_X3_passTick
set_option maxRecDepth 20000 in
theorem ggX6_tick_X3_rawReading : GoodIn wsX6_tick wsX3_rawReading := goodIn_r _ [118, 35, 39, 45, 46, 47, 32, 48, 34, 119, 120, 121, 122, 154, 155, 156, 157, 158, 159, 160, 161, 162, 163, 164] (by decide +kernel) (by decide +kernel)
set_option maxRecDepth 20000 in
theorem gX6_tick_X3_rawReading : GoodIn wsX6_tick (wsV RX6 91 RX3 yX3_rawReading wsX3_rawReading) := goodIn_app (goodIn_of _ (by decide +kernel)) ggX6_tick_X3_rawReading
theorem dX6_tick_0 : decode cX6_tick 0 = .ok (.iload_n 1, 1) := by decide +kernel
theorem dX6_tick_1 : decode cX6_tick 1 = .ok (.iconst 1, 1) := by decide +kernel
theorem dX6_tick_2 : decode cX6_tick 2 = .ok (.bipush 100, 2) := by decide +kernel
theorem dX6_tick_4 : decode cX6_tick 4 = .ok (.invokestatic 55, 3) := by decide +kernel
theorem dX6_tick_7 : decode cX6_tick 7 = .ok (.ifCond .ne 6, 3) := by decide +kernel
theorem dX6_tick_10 : decode cX6_tick 10 = .ok (.ldc 54, 2) := by decide +kernel
theorem dX6_tick_12 : decode cX6_tick 12 = .ok (.ireturn, 1) := by decide +kernel
theorem dX6_tick_13 : decode cX6_tick 13 = .ok (.aload_n 0, 1) := by decide +kernel
theorem dX6_tick_14 : decode cX6_tick 14 = .ok (.getfield 12, 3) := by decide +kernel
theorem dX6_tick_17 : decode cX6_tick 17 = .ok (.getfield 59, 3) := by decide +kernel
theorem dX6_tick_20 : decode cX6_tick 20 = .ok (.getfield 84, 3) := by decide +kernel
theorem dX6_tick_23 : decode cX6_tick 23 = .ok (.ldc 75, 2) := by decide +kernel
theorem dX6_tick_25 : decode cX6_tick 25 = .ok (.iload_n 1, 1) := by decide +kernel
theorem dX6_tick_26 : decode cX6_tick 26 = .ok (.isub, 1) := by decide +kernel
theorem dX6_tick_27 : decode cX6_tick 27 = .ok (.if_icmp .le 6, 3) := by decide +kernel
theorem dX6_tick_30 : decode cX6_tick 30 = .ok (.ldc 87, 2) := by decide +kernel
theorem dX6_tick_32 : decode cX6_tick 32 = .ok (.ireturn, 1) := by decide +kernel
theorem dX6_tick_33 : decode cX6_tick 33 = .ok (.aload_n 0, 1) := by decide +kernel
theorem dX6_tick_34 : decode cX6_tick 34 = .ok (.invokevirtual 69, 3) := by decide +kernel
theorem dX6_tick_37 : decode cX6_tick 37 = .ok (.iconst 0, 1) := by decide +kernel
theorem dX6_tick_38 : decode cX6_tick 38 = .ok (.istore_n 2, 1) := by decide +kernel
theorem dX6_tick_39 : decode cX6_tick 39 = .ok (.iload_n 2, 1) := by decide +kernel
theorem dX6_tick_40 : decode cX6_tick 40 = .ok (.iload_n 1, 1) := by decide +kernel
theorem dX6_tick_41 : decode cX6_tick 41 = .ok (.if_icmp .ge 19, 3) := by decide +kernel
theorem dX6_tick_44 : decode cX6_tick 44 = .ok (.aload_n 0, 1) := by decide +kernel
theorem dX6_tick_45 : decode cX6_tick 45 = .ok (.getfield 12, 3) := by decide +kernel
theorem dX6_tick_48 : decode cX6_tick 48 = .ok (.getfield 59, 3) := by decide +kernel
theorem dX6_tick_51 : decode cX6_tick 51 = .ok (.invokevirtual 88, 3) := by decide +kernel
theorem dX6_tick_54 : decode cX6_tick 54 = .ok (.iinc 2 1, 3) := by decide +kernel
theorem dX6_tick_57 : decode cX6_tick 57 = .ok (.goto (-18), 3) := by decide +kernel
theorem dX6_tick_60 : decode cX6_tick 60 = .ok (.aload_n 0, 1) := by decide +kernel
theorem dX6_tick_61 : decode cX6_tick 61 = .ok (.getfield 12, 3) := by decide +kernel
theorem dX6_tick_64 : decode cX6_tick 64 = .ok (.getfield 59, 3) := by decide +kernel
theorem dX6_tick_67 : decode cX6_tick 67 = .ok (.invokevirtual 91, 3) := by decide +kernel
theorem dX6_tick_70 : decode cX6_tick 70 = .ok (.ireturn, 1) := by decide +kernel
set_option maxRecDepth 20000 in
theorem ggX6_zero_X3_isSteady : GoodIn wsX6_zero wsX3_isSteady := goodIn_r _ [10, 11, 12, 13, 14, 15, 16, 17, 18, 19, 20, 21, 22, 23, 24, 9, 25, 26, 149, 150, 151, 152, 153, 154, 155, 156, 157, 158, 159] (by decide +kernel) (by decide +kernel)
set_option maxRecDepth 20000 in
theorem gX6_zero_X3_isSteady : GoodIn wsX6_zero (wsV RX6 94 RX3 yX3_isSteady wsX3_isSteady) := goodIn_app (goodIn_of _ (by decide +kernel)) ggX6_zero_X3_isSteady
set_option maxRecDepth 20000 in
theorem ggX6_zero_X3_isNearZero : GoodIn wsX6_zero wsX3_isNearZero := goodIn_r _ [30, 31, 32, 16, 33, 34, 35, 36, 9, 37, 38, 39, 40, 41, 42, 43, 44, 22, 23, 24, 25, 26, 45, 46, 47, 48, 149, 150, 151, 152, 153, 154, 155, 156, 157, 158, 159] (by decide +kernel) (by decide +kernel)
set_option maxRecDepth 20000 in
theorem gX6_zero_X3_isNearZero : GoodIn wsX6_zero (wsV RX6 98 RX3 yX3_isNearZero wsX3_isNearZero) := goodIn_app (goodIn_of _ (by decide +kernel)) ggX6_zero_X3_isNearZero
set_option maxRecDepth 20000 in
theorem ggX6_zero_X6_remember : GoodIn wsX6_zero wsX6_remember := goodIn_r _ [53, 54, 55, 1, 56, 57, 58, 59, 60, 61, 62, 63, 64, 65, 66, 67, 68, 69, 70, 9, 71, 26, 43, 72, 38, 73, 44, 74, 21, 11, 12, 13, 22, 23, 24, 25, 75, 76, 77, 78, 79, 80, 81, 52, 82, 83, 84, 85, 86, 87, 88, 89, 90, 91, 92, 93, 94, 95, 96, 97, 98, 99, 100, 101, 102, 103, 104, 105, 106, 107, 108, 109, 110, 111, 112, 113, 114, 115, 116, 117, 118, 119, 120, 121, 122, 123, 124, 125, 126, 127, 128, 19, 16, 20, 129, 130, 131, 132, 133, 135, 136, 137, 138, 139, 140, 141, 142, 143, 144, 145, 146, 147, 148, 149, 150, 151, 152, 153, 154, 155, 156, 157, 158, 159, 160, 161, 162, 163, 164, 165, 166, 167, 168] (by decide +kernel) (by decide +kernel)
set_option maxRecDepth 20000 in
theorem gX6_zero_X6_remember : GoodIn wsX6_zero (wsV RX6 69 RX6 yX6_remember wsX6_remember) := goodIn_app (goodIn_of _ (by decide +kernel)) ggX6_zero_X6_remember
set_option maxRecDepth 20000 in
theorem ggX6_zero_X3_rawReading : GoodIn wsX6_zero wsX3_rawReading := goodIn_r _ [42, 43, 44, 22, 23, 24, 9, 25, 26, 45, 46, 47, 48, 149, 150, 151, 152, 153, 154, 155, 156, 157, 158, 159] (by decide +kernel) (by decide +kernel)
set_option maxRecDepth 20000 in
theorem gX6_zero_X3_rawReading : GoodIn wsX6_zero (wsV RX6 91 RX3 yX3_rawReading wsX3_rawReading) := goodIn_app (goodIn_of _ (by decide +kernel)) ggX6_zero_X3_rawReading
theorem dX6_zero_0 : decode cX6_zero 0 = .ok (.aload_n 0, 1) := by decide +kernel
theorem dX6_zero_1 : decode cX6_zero 1 = .ok (.getfield 12, 3) := by decide +kernel
theorem dX6_zero_4 : decode cX6_zero 4 = .ok (.getfield 59, 3) := by decide +kernel
theorem dX6_zero_7 : decode cX6_zero 7 = .ok (.astore_n 1, 1) := by decide +kernel
theorem dX6_zero_8 : decode cX6_zero 8 = .ok (.aload_n 1, 1) := by decide +kernel
theorem dX6_zero_9 : decode cX6_zero 9 = .ok (.invokevirtual 94, 3) := by decide +kernel
theorem dX6_zero_12 : decode cX6_zero 12 = .ok (.ifCond .eq 10, 3) := by decide +kernel
theorem dX6_zero_15 : decode cX6_zero 15 = .ok (.aload_n 1, 1) := by decide +kernel
theorem dX6_zero_16 : decode cX6_zero 16 = .ok (.invokevirtual 98, 3) := by decide +kernel
theorem dX6_zero_19 : decode cX6_zero 19 = .ok (.ifCond .ne 6, 3) := by decide +kernel
theorem dX6_zero_22 : decode cX6_zero 22 = .ok (.ldc 87, 2) := by decide +kernel
theorem dX6_zero_24 : decode cX6_zero 24 = .ok (.ireturn, 1) := by decide +kernel
theorem dX6_zero_25 : decode cX6_zero 25 = .ok (.aload_n 1, 1) := by decide +kernel
theorem dX6_zero_26 : decode cX6_zero 26 = .ok (.getfield 101, 3) := by decide +kernel
theorem dX6_zero_29 : decode cX6_zero 29 = .ok (.istore_n 2, 1) := by decide +kernel
theorem dX6_zero_30 : decode cX6_zero 30 = .ok (.aload_n 0, 1) := by decide +kernel
theorem dX6_zero_31 : decode cX6_zero 31 = .ok (.invokevirtual 69, 3) := by decide +kernel
theorem dX6_zero_34 : decode cX6_zero 34 = .ok (.aload_n 1, 1) := by decide +kernel
theorem dX6_zero_35 : decode cX6_zero 35 = .ok (.aload_n 1, 1) := by decide +kernel
theorem dX6_zero_36 : decode cX6_zero 36 = .ok (.invokevirtual 91, 3) := by decide +kernel
theorem dX6_zero_39 : decode cX6_zero 39 = .ok (.putfield 101, 3) := by decide +kernel
theorem dX6_zero_42 : decode cX6_zero 42 = .ok (.aload_n 1, 1) := by decide +kernel
theorem dX6_zero_43 : decode cX6_zero 43 = .ok (.iconst 0, 1) := by decide +kernel
theorem dX6_zero_44 : decode cX6_zero 44 = .ok (.putfield 104, 3) := by decide +kernel
theorem dX6_zero_47 : decode cX6_zero 47 = .ok (.iload_n 2, 1) := by decide +kernel
theorem dX6_zero_48 : decode cX6_zero 48 = .ok (.ireturn, 1) := by decide +kernel
set_option maxRecDepth 20000 in
theorem ggX6_tare_X3_isSteady : GoodIn wsX6_tare wsX3_isSteady := goodIn_r _ [9, 10, 11, 12, 13, 14, 15, 16, 17, 18, 19, 20, 21, 22, 23, 8, 24, 25, 148, 149, 150, 151, 152, 153, 154, 155, 156, 157, 158] (by decide +kernel) (by decide +kernel)
set_option maxRecDepth 20000 in
theorem gX6_tare_X3_isSteady : GoodIn wsX6_tare (wsV RX6 94 RX3 yX3_isSteady wsX3_isSteady) := goodIn_app (goodIn_of _ (by decide +kernel)) ggX6_tare_X3_isSteady
set_option maxRecDepth 20000 in
theorem ggX6_tare_X3_isOver : GoodIn wsX6_tare wsX3_isOver := goodIn_r _ [29, 30, 31, 32, 8, 33, 34, 35, 36, 37, 38, 39, 40, 21, 22, 23, 24, 25, 41, 42, 43, 44, 148, 149, 150, 151, 152, 153, 154, 155, 156, 157, 158] (by decide +kernel) (by decide +kernel)
set_option maxRecDepth 20000 in
theorem gX6_tare_X3_isOver : GoodIn wsX6_tare (wsV RX6 107 RX3 yX3_isOver wsX3_isOver) := goodIn_app (goodIn_of _ (by decide +kernel)) ggX6_tare_X3_isOver
set_option maxRecDepth 20000 in
theorem ggX6_tare_X3_grossWeight : GoodIn wsX6_tare wsX3_grossWeight := goodIn_r _ [48, 34, 21, 22, 23, 8, 24, 25, 35, 36, 37, 38, 39, 40, 41, 42, 43, 44, 148, 149, 150, 151, 152, 153, 154, 155, 156, 157, 158] (by decide +kernel) (by decide +kernel)
set_option maxRecDepth 20000 in
theorem gX6_tare_X3_grossWeight : GoodIn wsX6_tare (wsV RX6 110 RX3 yX3_grossWeight wsX3_grossWeight) := goodIn_app (goodIn_of _ (by decide +kernel)) ggX6_tare_X3_grossWeight
set_option maxRecDepth 20000 in
theorem ggX6_tare_X6_remember : GoodIn wsX6_tare wsX6_remember := goodIn_r _ [53, 54, 55, 1, 56, 57, 58, 59, 60, 61, 62, 63, 64, 65, 66, 67, 68, 69, 70, 8, 71, 25, 39, 72, 34, 73, 40, 74, 20, 10, 11, 12, 21, 22, 23, 24, 75, 76, 77, 78, 79, 80, 81, 52, 82, 83, 84, 85, 86, 87, 88, 89, 90, 91, 92, 93, 94, 95, 96, 97, 98, 99, 100, 101, 102, 103, 104, 105, 106, 107, 108, 109, 110, 111, 112, 113, 114, 115, 116, 117, 118, 119, 120, 121, 122, 123, 124, 125, 126, 127, 128, 18, 15, 19, 129, 130, 131, 132, 133, 134, 135, 136, 137, 138, 139, 140, 141, 142, 143, 144, 145, 146, 147, 148, 149, 150, 151, 152, 153, 154, 155, 156, 157, 158, 159, 160, 161, 162, 163, 164, 165, 166, 167] (by decide +kernel) (by decide +kernel)
set_option maxRecDepth 20000 in
theorem gX6_tare_X6_remember : GoodIn wsX6_tare (wsV RX6 69 RX6 yX6_remember wsX6_remember) := goodIn_app (goodIn_of _ (by decide +kernel)) ggX6_tare_X6_remember
theorem dX6_tare_0 : decode cX6_tare 0 = .ok (.aload_n 0, 1) := by decide +kernel
theorem dX6_tare_1 : decode cX6_tare 1 = .ok (.getfield 12, 3) := by decide +kernel
theorem dX6_tare_4 : decode cX6_tare 4 = .ok (.getfield 59, 3) := by decide +kernel
theorem dX6_tare_7 : decode cX6_tare 7 = .ok (.astore_n 1, 1) := by decide +kernel
theorem dX6_tare_8 : decode cX6_tare 8 = .ok (.aload_n 1, 1) := by decide +kernel
theorem dX6_tare_9 : decode cX6_tare 9 = .ok (.invokevirtual 94, 3) := by decide +kernel
theorem dX6_tare_12 : decode cX6_tare 12 = .ok (.ifCond .eq 17, 3) := by decide +kernel
theorem dX6_tare_15 : decode cX6_tare 15 = .ok (.aload_n 1, 1) := by decide +kernel
theorem dX6_tare_16 : decode cX6_tare 16 = .ok (.invokevirtual 107, 3) := by decide +kernel
theorem dX6_tare_19 : decode cX6_tare 19 = .ok (.ifCond .ne 10, 3) := by decide +kernel
theorem dX6_tare_22 : decode cX6_tare 22 = .ok (.aload_n 1, 1) := by decide +kernel
theorem dX6_tare_23 : decode cX6_tare 23 = .ok (.invokevirtual 110, 3) := by decide +kernel
theorem dX6_tare_26 : decode cX6_tare 26 = .ok (.ifCond .ge 6, 3) := by decide +kernel
theorem dX6_tare_29 : decode cX6_tare 29 = .ok (.ldc 87, 2) := by decide +kernel
theorem dX6_tare_31 : decode cX6_tare 31 = .ok (.ireturn, 1) := by decide +kernel
theorem dX6_tare_32 : decode cX6_tare 32 = .ok (.aload_n 0, 1) := by decide +kernel
theorem dX6_tare_33 : decode cX6_tare 33 = .ok (.invokevirtual 69, 3) := by decide +kernel
theorem dX6_tare_36 : decode cX6_tare 36 = .ok (.aload_n 1, 1) := by decide +kernel
theorem dX6_tare_37 : decode cX6_tare 37 = .ok (.aload_n 1, 1) := by decide +kernel
theorem dX6_tare_38 : decode cX6_tare 38 = .ok (.invokevirtual 110, 3) := by decide +kernel
theorem dX6_tare_41 : decode cX6_tare 41 = .ok (.putfield 104, 3) := by decide +kernel
theorem dX6_tare_44 : decode cX6_tare 44 = .ok (.aload_n 1, 1) := by decide +kernel
theorem dX6_tare_45 : decode cX6_tare 45 = .ok (.getfield 104, 3) := by decide +kernel
theorem dX6_tare_48 : decode cX6_tare 48 = .ok (.ireturn, 1) := by decide +kernel
set_option maxRecDepth 20000 in
theorem ggX6_scale_X6_isWithin : GoodIn wsX6_scale wsX6_isWithin := goodIn_r _ [7] (by decide +kernel) (by decide +kernel)
set_option maxRecDepth 20000 in
theorem gX6_scale_X6_isWithin : GoodIn wsX6_scale (va_wsS RX6 55 yX6_isWithin wsX6_isWithin) := goodIn_app (goodIn_of _ (by decide +kernel)) ggX6_scale_X6_isWithin
set_option maxRecDepth 20000 in
theorem ggX6_scale_X3_number : GoodIn wsX6_scale wsX3_number := goodIn_r _ [12, 13, 14, 15, 16, 17, 18, 19, 20, 21, 11, 22, 23, 24, 25, 26, 27, 28, 29, 30, 31, 32, 33, 34, 35, 36, 37, 38, 39, 40, 41, 42, 43, 44, 45, 46, 47, 48, 49, 50, 51, 52, 53, 54, 55, 56, 57, 58, 59, 60, 61, 62, 77, 78, 79, 80, 81, 82, 83, 84, 85, 86, 87] (by decide +kernel) (by decide +kernel)
set_option maxRecDepth 20000 in
theorem gX6_scale_X3_number : GoodIn wsX6_scale (wsV RX6 113 RX3 yX3_number wsX3_number) := goodIn_app (goodIn_of _ (by decide +kernel)) ggX6_scale_X3_number
theorem dX6_scale_0 : decode cX6_scale 0 = .ok (.iload_n 1, 1) := by decide +kernel
theorem dX6_scale_1 : decode cX6_scale 1 = .ok (.iconst 0, 1) := by decide +kernel
theorem dX6_scale_2 : decode cX6_scale 2 = .ok (.bipush 10, 2) := by decide +kernel
theorem dX6_scale_4 : decode cX6_scale 4 = .ok (.invokestatic 55, 3) := by decide +kernel
theorem dX6_scale_7 : decode cX6_scale 7 = .ok (.ifCond .eq 17, 3) := by decide +kernel
theorem dX6_scale_10 : decode cX6_scale 10 = .ok (.aload_n 0, 1) := by decide +kernel
theorem dX6_scale_11 : decode cX6_scale 11 = .ok (.getfield 12, 3) := by decide +kernel
theorem dX6_scale_14 : decode cX6_scale 14 = .ok (.getfield 59, 3) := by decide +kernel
theorem dX6_scale_17 : decode cX6_scale 17 = .ok (.iload_n 1, 1) := by decide +kernel
theorem dX6_scale_18 : decode cX6_scale 18 = .ok (.invokevirtual 113, 3) := by decide +kernel
theorem dX6_scale_21 : decode cX6_scale 21 = .ok (.goto 5, 3) := by decide +kernel
theorem dX6_scale_24 : decode cX6_scale 24 = .ok (.ldc 54, 2) := by decide +kernel
theorem dX6_scale_26 : decode cX6_scale 26 = .ok (.ireturn, 1) := by decide +kernel
set_option maxRecDepth 20000 in
theorem ggX6_band_X6_isZone : GoodIn wsX6_band wsX6_isZone := goodIn_r _ [9, 10, 11, 8, 12] (by decide +kernel) (by decide +kernel)
set_option maxRecDepth 20000 in
theorem gX6_band_X6_isZone : GoodIn wsX6_band (va_wsS RX6 116 yX6_isZone wsX6_isZone) := goodIn_app (goodIn_of _ (by decide +kernel)) ggX6_band_X6_isZone
set_option maxRecDepth 20000 in
theorem ggX6_band_X6_isWithin : GoodIn wsX6_band wsX6_isWithin := goodIn_r _ [12] (by decide +kernel) (by decide +kernel)
set_option maxRecDepth 20000 in
theorem gX6_band_X6_isWithin : GoodIn wsX6_band (va_wsS RX6 55 yX6_isWithin wsX6_isWithin) := goodIn_app (goodIn_of _ (by decide +kernel)) ggX6_band_X6_isWithin
set_option maxRecDepth 20000 in
theorem ggX6_band_X0_bandFor : GoodIn wsX6_band wsX0_bandFor := goodIn_r _ [17, 18, 19, 20, 16, 21, 22, 23, 8, 24, 25, 26, 27, 28, 29, 30, 31, 32, 33, 139, 140, 141, 142] (by decide +kernel) (by decide +kernel)
set_option maxRecDepth 20000 in
theorem gX6_band_X0_bandFor : GoodIn wsX6_band (wsV RX6 124 RX0 yX0_bandFor wsX0_bandFor) := goodIn_app (goodIn_of _ (by decide +kernel)) ggX6_band_X0_bandFor
set_option maxRecDepth 20000 in
theorem ggX6_band_X0_hasBand : GoodIn wsX6_band wsX0_hasBand := goodIn_r _ [33, 22, 139, 140, 141, 142] (by decide +kernel) (by decide +kernel)
set_option maxRecDepth 20000 in
theorem gX6_band_X0_hasBand : GoodIn wsX6_band (wsV RX6 130 RX0 yX0_hasBand wsX0_hasBand) := goodIn_app (goodIn_of _ (by decide +kernel)) ggX6_band_X0_hasBand
set_option maxRecDepth 20000 in
theorem ggX6_band_X0_limitOf : GoodIn wsX6_band wsX0_limitOf := goodIn_r _ [28, 29, 30, 31, 32, 16, 33, 22, 23, 8, 24, 139, 140, 141, 142] (by decide +kernel) (by decide +kernel)
set_option maxRecDepth 20000 in
theorem gX6_band_X0_limitOf : GoodIn wsX6_band (wsV RX6 134 RX0 yX0_limitOf wsX0_limitOf) := goodIn_app (goodIn_of _ (by decide +kernel)) ggX6_band_X0_limitOf
set_option maxRecDepth 20000 in
theorem ggX6_band_X0_bandsOf : GoodIn wsX6_band wsX0_bandsOf := goodIn_r _ [21, 22, 23, 8, 24, 139, 140, 141, 142] (by decide +kernel) (by decide +kernel)
set_option maxRecDepth 20000 in
theorem gX6_band_X0_bandsOf : GoodIn wsX6_band (wsV RX6 137 RX0 yX0_bandsOf wsX0_bandsOf) := goodIn_app (goodIn_of _ (by decide +kernel)) ggX6_band_X0_bandsOf
set_option maxRecDepth 20000 in
theorem ggX6_band_X6_remember : GoodIn wsX6_band wsX6_remember := goodIn_r _ [40, 41, 42, 3, 43, 44, 45, 46, 47, 48, 49, 50, 51, 52, 53, 54, 55, 56, 57, 58, 59, 60, 61, 62, 63, 64, 65, 66, 67, 68, 69, 70, 71, 72, 73, 74, 75, 76, 77, 16, 78, 22, 23, 8, 24, 18, 19, 20, 21, 25, 26, 27, 28, 29, 30, 31, 32, 33, 79, 80, 81, 82, 83, 84, 85, 86, 87, 88, 89, 90, 91, 92, 93, 94, 95, 96, 97, 98, 99, 100, 101, 102, 103, 104, 105, 106, 107, 108, 109, 110, 111, 112, 113, 114, 115, 116, 117, 118, 119, 125, 126, 127, 128, 129, 130, 131, 132, 133, 134, 135, 136, 137, 138, 143, 144, 145, 146, 147, 148, 149, 150, 151, 152, 153, 139, 140, 141, 142, 154, 155, 156, 157, 158] (by decide +kernel) (by decide +kernel)
set_option maxRecDepth 20000 in
theorem gX6_band_X6_remember : GoodIn wsX6_band (wsV RX6 69 RX6 yX6_remember wsX6_remember) := goodIn_app (goodIn_of _ (by decide +kernel)) ggX6_band_X6_remember
set_option maxRecDepth 20000 in
theorem ggX6_band_X0_openBand : GoodIn wsX6_band wsX0_openBand := goodIn_r _ [123, 22, 23, 8, 24, 18, 19, 20, 16, 21, 25, 26, 27, 28, 29, 30, 31, 32, 33, 79, 80, 81, 82, 83, 84, 85, 86, 87, 139, 140, 141, 142] (by decide +kernel) (by decide +kernel)
set_option maxRecDepth 20000 in
theorem gX6_band_X0_openBand : GoodIn wsX6_band (wsV RX6 141 RX0 yX0_openBand wsX0_openBand) := goodIn_app (goodIn_of _ (by decide +kernel)) ggX6_band_X0_openBand
set_option maxRecDepth 20000 in
theorem ggX6_band_X0_putBand : GoodIn wsX6_band wsX0_putBand := goodIn_r _ [87, 29, 83, 30, 31, 32, 16, 33, 22, 23, 8, 24, 139, 140, 141, 142] (by decide +kernel) (by decide +kernel)
set_option maxRecDepth 20000 in
theorem gX6_band_X0_putBand : GoodIn wsX6_band (wsV RX6 144 RX0 yX0_putBand wsX0_putBand) := goodIn_app (goodIn_of _ (by decide +kernel)) ggX6_band_X0_putBand
theorem dX6_band_0 : decode cX6_band 0 = .ok (.iload_n 1, 1) := by decide +kernel
theorem dX6_band_1 : decode cX6_band 1 = .ok (.invokestatic 116, 3) := by decide +kernel
theorem dX6_band_4 : decode cX6_band 4 = .ok (.ifCond .eq 23, 3) := by decide +kernel
theorem dX6_band_7 : decode cX6_band 7 = .ok (.iload_n 2, 1) := by decide +kernel
theorem dX6_band_8 : decode cX6_band 8 = .ok (.iconst 1, 1) := by decide +kernel
theorem dX6_band_9 : decode cX6_band 9 = .ok (.ldc 75, 2) := by decide +kernel
theorem dX6_band_11 : decode cX6_band 11 = .ok (.invokestatic 55, 3) := by decide +kernel
theorem dX6_band_14 : decode cX6_band 14 = .ok (.ifCond .eq 13, 3) := by decide +kernel
theorem dX6_band_17 : decode cX6_band 17 = .ok (.iload_n 3, 1) := by decide +kernel
theorem dX6_band_18 : decode cX6_band 18 = .ok (.iconst 0, 1) := by decide +kernel
theorem dX6_band_19 : decode cX6_band 19 = .ok (.ldc 75, 2) := by decide +kernel
theorem dX6_band_21 : decode cX6_band 21 = .ok (.invokestatic 55, 3) := by decide +kernel
theorem dX6_band_24 : decode cX6_band 24 = .ok (.ifCond .ne 6, 3) := by decide +kernel
theorem dX6_band_27 : decode cX6_band 27 = .ok (.ldc 54, 2) := by decide +kernel
theorem dX6_band_29 : decode cX6_band 29 = .ok (.ireturn, 1) := by decide +kernel
theorem dX6_band_30 : decode cX6_band 30 = .ok (.aload_n 0, 1) := by decide +kernel
theorem dX6_band_31 : decode cX6_band 31 = .ok (.getfield 12, 3) := by decide +kernel
theorem dX6_band_34 : decode cX6_band 34 = .ok (.getfield 120, 3) := by decide +kernel
theorem dX6_band_37 : decode cX6_band 37 = .ok (.astore 4, 2) := by decide +kernel
theorem dX6_band_39 : decode cX6_band 39 = .ok (.aload 4, 2) := by decide +kernel
theorem dX6_band_41 : decode cX6_band 41 = .ok (.iload_n 1, 1) := by decide +kernel
theorem dX6_band_42 : decode cX6_band 42 = .ok (.iload_n 2, 1) := by decide +kernel
theorem dX6_band_43 : decode cX6_band 43 = .ok (.invokevirtual 124, 3) := by decide +kernel
theorem dX6_band_46 : decode cX6_band 46 = .ok (.istore 5, 2) := by decide +kernel
theorem dX6_band_48 : decode cX6_band 48 = .ok (.aload 4, 2) := by decide +kernel
theorem dX6_band_50 : decode cX6_band 50 = .ok (.iload_n 1, 1) := by decide +kernel
theorem dX6_band_51 : decode cX6_band 51 = .ok (.iload 5, 2) := by decide +kernel
theorem dX6_band_53 : decode cX6_band 53 = .ok (.invokevirtual 130, 3) := by decide +kernel
theorem dX6_band_56 : decode cX6_band 56 = .ok (.ifCond .eq 15, 3) := by decide +kernel
theorem dX6_band_59 : decode cX6_band 59 = .ok (.aload 4, 2) := by decide +kernel
theorem dX6_band_61 : decode cX6_band 61 = .ok (.iload_n 1, 1) := by decide +kernel
theorem dX6_band_62 : decode cX6_band 62 = .ok (.iload 5, 2) := by decide +kernel
theorem dX6_band_64 : decode cX6_band 64 = .ok (.invokevirtual 134, 3) := by decide +kernel
theorem dX6_band_67 : decode cX6_band 67 = .ok (.iload_n 2, 1) := by decide +kernel
theorem dX6_band_68 : decode cX6_band 68 = .ok (.if_icmp .eq 7, 3) := by decide +kernel
theorem dX6_band_71 : decode cX6_band 71 = .ok (.iconst 1, 1) := by decide +kernel
theorem dX6_band_72 : decode cX6_band 72 = .ok (.goto 4, 3) := by decide +kernel
theorem dX6_band_75 : decode cX6_band 75 = .ok (.iconst 0, 1) := by decide +kernel
theorem dX6_band_76 : decode cX6_band 76 = .ok (.istore 6, 2) := by decide +kernel
theorem dX6_band_78 : decode cX6_band 78 = .ok (.iload 6, 2) := by decide +kernel
theorem dX6_band_80 : decode cX6_band 80 = .ok (.ifCond .eq 17, 3) := by decide +kernel
theorem dX6_band_83 : decode cX6_band 83 = .ok (.aload 4, 2) := by decide +kernel
theorem dX6_band_85 : decode cX6_band 85 = .ok (.iload_n 1, 1) := by decide +kernel
theorem dX6_band_86 : decode cX6_band 86 = .ok (.invokevirtual 137, 3) := by decide +kernel
theorem dX6_band_89 : decode cX6_band 89 = .ok (.bipush 6, 2) := by decide +kernel
theorem dX6_band_91 : decode cX6_band 91 = .ok (.if_icmp .lt 6, 3) := by decide +kernel
theorem dX6_band_94 : decode cX6_band 94 = .ok (.ldc 140, 2) := by decide +kernel
theorem dX6_band_96 : decode cX6_band 96 = .ok (.ireturn, 1) := by decide +kernel
theorem dX6_band_97 : decode cX6_band 97 = .ok (.aload_n 0, 1) := by decide +kernel
theorem dX6_band_98 : decode cX6_band 98 = .ok (.invokevirtual 69, 3) := by decide +kernel
theorem dX6_band_101 : decode cX6_band 101 = .ok (.iload 6, 2) := by decide +kernel
theorem dX6_band_103 : decode cX6_band 103 = .ok (.ifCond .eq 11, 3) := by decide +kernel
theorem dX6_band_106 : decode cX6_band 106 = .ok (.aload 4, 2) := by decide +kernel
theorem dX6_band_108 : decode cX6_band 108 = .ok (.iload_n 1, 1) := by decide +kernel
theorem dX6_band_109 : decode cX6_band 109 = .ok (.iload 5, 2) := by decide +kernel
theorem dX6_band_111 : decode cX6_band 111 = .ok (.invokevirtual 141, 3) := by decide +kernel
theorem dX6_band_114 : decode cX6_band 114 = .ok (.aload 4, 2) := by decide +kernel
theorem dX6_band_116 : decode cX6_band 116 = .ok (.iload_n 1, 1) := by decide +kernel
theorem dX6_band_117 : decode cX6_band 117 = .ok (.iload 5, 2) := by decide +kernel
theorem dX6_band_119 : decode cX6_band 119 = .ok (.iload_n 2, 1) := by decide +kernel
theorem dX6_band_120 : decode cX6_band 120 = .ok (.iload_n 3, 1) := by decide +kernel
theorem dX6_band_121 : decode cX6_band 121 = .ok (.invokevirtual 144, 3) := by decide +kernel
theorem dX6_band_124 : decode cX6_band 124 = .ok (.iload 5, 2) := by decide +kernel
theorem dX6_band_126 : decode cX6_band 126 = .ok (.ireturn, 1) := by decide +kernel
set_option maxRecDepth 20000 in
theorem ggX6_unband_X0_hasBand : GoodIn wsX6_unband wsX0_hasBand := goodIn_r _ [8, 9, 125, 126, 127, 128] (by decide +kernel) (by decide +kernel)
set_option maxRecDepth 20000 in
theorem gX6_unband_X0_hasBand : GoodIn wsX6_unband (wsV RX6 130 RX0 yX0_hasBand wsX0_hasBand) := goodIn_app (goodIn_of _ (by decide +kernel)) ggX6_unband_X0_hasBand
set_option maxRecDepth 20000 in
theorem ggX6_unband_X6_remember : GoodIn wsX6_unband wsX6_remember := goodIn_r _ [14, 15, 16, 1, 17, 18, 19, 20, 21, 22, 23, 24, 25, 26, 27, 28, 29, 30, 31, 32, 33, 34, 35, 36, 37, 38, 39, 40, 41, 42, 43, 44, 45, 46, 47, 48, 49, 50, 51, 7, 52, 9, 53, 13, 54, 55, 56, 57, 58, 59, 60, 61, 62, 63, 64, 5, 6, 8, 65, 66, 67, 68, 69, 70, 71, 72, 73, 74, 75, 76, 77, 78, 79, 80, 81, 82, 83, 84, 85, 86, 87, 88, 89, 90, 91, 92, 93, 94, 95, 96, 97, 98, 99, 100, 101, 102, 103, 104, 105, 111, 112, 113, 114, 115, 116, 117, 118, 119, 120, 121, 122, 123, 124, 129, 130, 131, 132, 133, 134, 135, 136, 137, 138, 139, 125, 126, 127, 128, 140, 141, 142, 143, 144] (by decide +kernel) (by decide +kernel)
set_option maxRecDepth 20000 in
theorem gX6_unband_X6_remember : GoodIn wsX6_unband (wsV RX6 69 RX6 yX6_remember wsX6_remember) := goodIn_app (goodIn_of _ (by decide +kernel)) ggX6_unband_X6_remember
set_option maxRecDepth 20000 in
theorem ggX6_unband_X0_closeBand : GoodIn wsX6_unband wsX0_closeBand := goodIn_r _ [109, 9, 55, 56, 57, 7, 58, 53, 13, 54, 59, 60, 61, 62, 63, 64, 5, 6, 8, 65, 66, 67, 68, 69, 70, 71, 72, 73, 125, 126, 127, 128] (by decide +kernel) (by decide +kernel)
set_option maxRecDepth 20000 in
theorem gX6_unband_X0_closeBand : GoodIn wsX6_unband (wsV RX6 148 RX0 yX0_closeBand wsX0_closeBand) := goodIn_app (goodIn_of _ (by decide +kernel)) ggX6_unband_X0_closeBand
set_option maxRecDepth 20000 in
theorem ggX6_unband_X0_bandsOf : GoodIn wsX6_unband wsX0_bandsOf := goodIn_r _ [58, 9, 53, 13, 54, 125, 126, 127, 128] (by decide +kernel) (by decide +kernel)
set_option maxRecDepth 20000 in
theorem gX6_unband_X0_bandsOf : GoodIn wsX6_unband (wsV RX6 137 RX0 yX0_bandsOf wsX0_bandsOf) := goodIn_app (goodIn_of _ (by decide +kernel)) ggX6_unband_X0_bandsOf
theorem dX6_unband_0 : decode cX6_unband 0 = .ok (.aload_n 0, 1) := by decide +kernel
theorem dX6_unband_1 : decode cX6_unband 1 = .ok (.getfield 12, 3) := by decide +kernel
theorem dX6_unband_4 : decode cX6_unband 4 = .ok (.getfield 120, 3) := by decide +kernel
theorem dX6_unband_7 : decode cX6_unband 7 = .ok (.iload_n 1, 1) := by decide +kernel
theorem dX6_unband_8 : decode cX6_unband 8 = .ok (.iload_n 2, 1) := by decide +kernel
theorem dX6_unband_9 : decode cX6_unband 9 = .ok (.invokevirtual 130, 3) := by decide +kernel
theorem dX6_unband_12 : decode cX6_unband 12 = .ok (.ifCond .ne 6, 3) := by decide +kernel
theorem dX6_unband_15 : decode cX6_unband 15 = .ok (.ldc 54, 2) := by decide +kernel
theorem dX6_unband_17 : decode cX6_unband 17 = .ok (.ireturn, 1) := by decide +kernel
theorem dX6_unband_18 : decode cX6_unband 18 = .ok (.aload_n 0, 1) := by decide +kernel
theorem dX6_unband_19 : decode cX6_unband 19 = .ok (.invokevirtual 69, 3) := by decide +kernel
theorem dX6_unband_22 : decode cX6_unband 22 = .ok (.aload_n 0, 1) := by decide +kernel
theorem dX6_unband_23 : decode cX6_unband 23 = .ok (.getfield 12, 3) := by decide +kernel
theorem dX6_unband_26 : decode cX6_unband 26 = .ok (.getfield 120, 3) := by decide +kernel
theorem dX6_unband_29 : decode cX6_unband 29 = .ok (.iload_n 1, 1) := by decide +kernel
theorem dX6_unband_30 : decode cX6_unband 30 = .ok (.iload_n 2, 1) := by decide +kernel
theorem dX6_unband_31 : decode cX6_unband 31 = .ok (.invokevirtual 148, 3) := by decide +kernel
theorem dX6_unband_34 : decode cX6_unband 34 = .ok (.aload_n 0, 1) := by decide +kernel
theorem dX6_unband_35 : decode cX6_unband 35 = .ok (.getfield 12, 3) := by decide +kernel
theorem dX6_unband_38 : decode cX6_unband 38 = .ok (.getfield 120, 3) := by decide +kernel
theorem dX6_unband_41 : decode cX6_unband 41 = .ok (.iload_n 1, 1) := by decide +kernel
theorem dX6_unband_42 : decode cX6_unband 42 = .ok (.invokevirtual 137, 3) := by decide +kernel
theorem dX6_unband_45 : decode cX6_unband 45 = .ok (.ireturn, 1) := by decide +kernel
set_option maxRecDepth 20000 in
theorem ggX6_bandAt_X0_hasBand : GoodIn wsX6_bandAt wsX0_hasBand := goodIn_r _ [8, 9, 41, 42, 43, 44] (by decide +kernel) (by decide +kernel)
set_option maxRecDepth 20000 in
theorem gX6_bandAt_X0_hasBand : GoodIn wsX6_bandAt (wsV RX6 130 RX0 yX0_hasBand wsX0_hasBand) := goodIn_app (goodIn_of _ (by decide +kernel)) ggX6_bandAt_X0_hasBand
set_option maxRecDepth 20000 in
theorem ggX6_bandAt_X6_isWithin : GoodIn wsX6_bandAt wsX6_isWithin := goodIn_r _ [13] (by decide +kernel) (by decide +kernel)
set_option maxRecDepth 20000 in
theorem gX6_bandAt_X6_isWithin : GoodIn wsX6_bandAt (va_wsS RX6 55 yX6_isWithin wsX6_isWithin) := goodIn_app (goodIn_of _ (by decide +kernel)) ggX6_bandAt_X6_isWithin
set_option maxRecDepth 20000 in
theorem ggX6_bandAt_X0_limitOf : GoodIn wsX6_bandAt wsX0_limitOf := goodIn_r _ [17, 18, 19, 5, 6, 7, 8, 9, 20, 12, 21, 41, 42, 43, 44] (by decide +kernel) (by decide +kernel)
set_option maxRecDepth 20000 in
theorem gX6_bandAt_X0_limitOf : GoodIn wsX6_bandAt (wsV RX6 134 RX0 yX0_limitOf wsX0_limitOf) := goodIn_app (goodIn_of _ (by decide +kernel)) ggX6_bandAt_X0_limitOf
set_option maxRecDepth 20000 in
theorem ggX6_bandAt_X0_priceOf : GoodIn wsX6_bandAt wsX0_priceOf := goodIn_r _ [25, 26, 19, 5, 6, 7, 8, 9, 20, 12, 21, 41, 42, 43, 44] (by decide +kernel) (by decide +kernel)
set_option maxRecDepth 20000 in
theorem gX6_bandAt_X0_priceOf : GoodIn wsX6_bandAt (wsV RX6 151 RX0 yX0_priceOf wsX0_priceOf) := goodIn_app (goodIn_of _ (by decide +kernel)) ggX6_bandAt_X0_priceOf
theorem dX6_bandAt_0 : decode cX6_bandAt 0 = .ok (.aload_n 0, 1) := by decide +kernel
theorem dX6_bandAt_1 : decode cX6_bandAt 1 = .ok (.getfield 12, 3) := by decide +kernel
theorem dX6_bandAt_4 : decode cX6_bandAt 4 = .ok (.getfield 120, 3) := by decide +kernel
theorem dX6_bandAt_7 : decode cX6_bandAt 7 = .ok (.iload_n 1, 1) := by decide +kernel
theorem dX6_bandAt_8 : decode cX6_bandAt 8 = .ok (.iload_n 2, 1) := by decide +kernel
theorem dX6_bandAt_9 : decode cX6_bandAt 9 = .ok (.invokevirtual 130, 3) := by decide +kernel
theorem dX6_bandAt_12 : decode cX6_bandAt 12 = .ok (.ifCond .eq 12, 3) := by decide +kernel
theorem dX6_bandAt_15 : decode cX6_bandAt 15 = .ok (.iload_n 3, 1) := by decide +kernel
theorem dX6_bandAt_16 : decode cX6_bandAt 16 = .ok (.iconst 0, 1) := by decide +kernel
theorem dX6_bandAt_17 : decode cX6_bandAt 17 = .ok (.iconst 1, 1) := by decide +kernel
theorem dX6_bandAt_18 : decode cX6_bandAt 18 = .ok (.invokestatic 55, 3) := by decide +kernel
theorem dX6_bandAt_21 : decode cX6_bandAt 21 = .ok (.ifCond .ne 6, 3) := by decide +kernel
theorem dX6_bandAt_24 : decode cX6_bandAt 24 = .ok (.ldc 54, 2) := by decide +kernel
theorem dX6_bandAt_26 : decode cX6_bandAt 26 = .ok (.ireturn, 1) := by decide +kernel
theorem dX6_bandAt_27 : decode cX6_bandAt 27 = .ok (.iload_n 3, 1) := by decide +kernel
theorem dX6_bandAt_28 : decode cX6_bandAt 28 = .ok (.ifCond .ne 18, 3) := by decide +kernel
theorem dX6_bandAt_31 : decode cX6_bandAt 31 = .ok (.aload_n 0, 1) := by decide +kernel
theorem dX6_bandAt_32 : decode cX6_bandAt 32 = .ok (.getfield 12, 3) := by decide +kernel
theorem dX6_bandAt_35 : decode cX6_bandAt 35 = .ok (.getfield 120, 3) := by decide +kernel
theorem dX6_bandAt_38 : decode cX6_bandAt 38 = .ok (.iload_n 1, 1) := by decide +kernel
theorem dX6_bandAt_39 : decode cX6_bandAt 39 = .ok (.iload_n 2, 1) := by decide +kernel
theorem dX6_bandAt_40 : decode cX6_bandAt 40 = .ok (.invokevirtual 134, 3) := by decide +kernel
theorem dX6_bandAt_43 : decode cX6_bandAt 43 = .ok (.goto 15, 3) := by decide +kernel
theorem dX6_bandAt_46 : decode cX6_bandAt 46 = .ok (.aload_n 0, 1) := by decide +kernel
theorem dX6_bandAt_47 : decode cX6_bandAt 47 = .ok (.getfield 12, 3) := by decide +kernel
theorem dX6_bandAt_50 : decode cX6_bandAt 50 = .ok (.getfield 120, 3) := by decide +kernel
theorem dX6_bandAt_53 : decode cX6_bandAt 53 = .ok (.iload_n 1, 1) := by decide +kernel
theorem dX6_bandAt_54 : decode cX6_bandAt 54 = .ok (.iload_n 2, 1) := by decide +kernel
theorem dX6_bandAt_55 : decode cX6_bandAt 55 = .ok (.invokevirtual 151, 3) := by decide +kernel
theorem dX6_bandAt_58 : decode cX6_bandAt 58 = .ok (.ireturn, 1) := by decide +kernel
set_option maxRecDepth 20000 in
theorem ggX6_setExtra_X6_isZone : GoodIn wsX6_setExtra wsX6_isZone := goodIn_r _ [7, 8, 9, 6, 10] (by decide +kernel) (by decide +kernel)
set_option maxRecDepth 20000 in
theorem gX6_setExtra_X6_isZone : GoodIn wsX6_setExtra (va_wsS RX6 116 yX6_isZone wsX6_isZone) := goodIn_app (goodIn_of _ (by decide +kernel)) ggX6_setExtra_X6_isZone
set_option maxRecDepth 20000 in
theorem ggX6_setExtra_X6_isWithin : GoodIn wsX6_setExtra wsX6_isWithin := goodIn_r _ [10] (by decide +kernel) (by decide +kernel)
set_option maxRecDepth 20000 in
theorem gX6_setExtra_X6_isWithin : GoodIn wsX6_setExtra (va_wsS RX6 55 yX6_isWithin wsX6_isWithin) := goodIn_app (goodIn_of _ (by decide +kernel)) ggX6_setExtra_X6_isWithin
set_option maxRecDepth 20000 in
theorem ggX6_setExtra_X0_extraOf : GoodIn wsX6_setExtra wsX0_extraOf := goodIn_r _ [15, 16, 17, 6, 18, 127, 128, 129, 130] (by decide +kernel) (by decide +kernel)
set_option maxRecDepth 20000 in
theorem gX6_setExtra_X0_extraOf : GoodIn wsX6_setExtra (wsV RX6 154 RX0 yX0_extraOf wsX0_extraOf) := goodIn_app (goodIn_of _ (by decide +kernel)) ggX6_setExtra_X0_extraOf
set_option maxRecDepth 20000 in
theorem ggX6_setExtra_X6_remember : GoodIn wsX6_setExtra wsX6_remember := goodIn_r _ [22, 23, 24, 2, 25, 26, 27, 28, 29, 30, 31, 32, 33, 34, 35, 36, 37, 38, 39, 40, 41, 42, 43, 44, 45, 46, 47, 48, 49, 50, 51, 52, 53, 54, 55, 56, 57, 58, 59, 14, 60, 61, 17, 6, 18, 62, 63, 64, 65, 66, 67, 68, 69, 70, 71, 72, 73, 74, 75, 76, 77, 78, 79, 80, 81, 82, 83, 84, 12, 13, 15, 16, 85, 86, 87, 88, 89, 90, 91, 92, 93, 94, 95, 96, 97, 98, 99, 100, 101, 102, 103, 104, 105, 106, 107, 108, 109, 110, 111, 113, 114, 115, 116, 117, 118, 119, 120, 121, 122, 123, 124, 125, 126, 131, 132, 133, 134, 135, 136, 137, 138, 139, 140, 141, 127, 128, 129, 130, 142, 143, 144, 145, 146] (by decide +kernel) (by decide +kernel)
set_option maxRecDepth 20000 in
theorem gX6_setExtra_X6_remember : GoodIn wsX6_setExtra (wsV RX6 69 RX6 yX6_remember wsX6_remember) := goodIn_app (goodIn_of _ (by decide +kernel)) ggX6_setExtra_X6_remember
set_option maxRecDepth 20000 in
theorem ggX6_setExtra_X0_putExtra : GoodIn wsX6_setExtra wsX0_putExtra := goodIn_r _ [88, 16, 17, 6, 18, 127, 128, 129, 130] (by decide +kernel) (by decide +kernel)
set_option maxRecDepth 20000 in
theorem gX6_setExtra_X0_putExtra : GoodIn wsX6_setExtra (wsV RX6 157 RX0 yX0_putExtra wsX0_putExtra) := goodIn_app (goodIn_of _ (by decide +kernel)) ggX6_setExtra_X0_putExtra
theorem dX6_setExtra_0 : decode cX6_setExtra 0 = .ok (.iload_n 1, 1) := by decide +kernel
theorem dX6_setExtra_1 : decode cX6_setExtra 1 = .ok (.invokestatic 116, 3) := by decide +kernel
theorem dX6_setExtra_4 : decode cX6_setExtra 4 = .ok (.ifCond .eq 14, 3) := by decide +kernel
theorem dX6_setExtra_7 : decode cX6_setExtra 7 = .ok (.iload_n 2, 1) := by decide +kernel
theorem dX6_setExtra_8 : decode cX6_setExtra 8 = .ok (.iconst 0, 1) := by decide +kernel
theorem dX6_setExtra_9 : decode cX6_setExtra 9 = .ok (.sipush 10000, 3) := by decide +kernel
theorem dX6_setExtra_12 : decode cX6_setExtra 12 = .ok (.invokestatic 55, 3) := by decide +kernel
theorem dX6_setExtra_15 : decode cX6_setExtra 15 = .ok (.ifCond .ne 6, 3) := by decide +kernel
theorem dX6_setExtra_18 : decode cX6_setExtra 18 = .ok (.ldc 54, 2) := by decide +kernel
theorem dX6_setExtra_20 : decode cX6_setExtra 20 = .ok (.ireturn, 1) := by decide +kernel
theorem dX6_setExtra_21 : decode cX6_setExtra 21 = .ok (.aload_n 0, 1) := by decide +kernel
theorem dX6_setExtra_22 : decode cX6_setExtra 22 = .ok (.getfield 12, 3) := by decide +kernel
theorem dX6_setExtra_25 : decode cX6_setExtra 25 = .ok (.getfield 120, 3) := by decide +kernel
theorem dX6_setExtra_28 : decode cX6_setExtra 28 = .ok (.iload_n 1, 1) := by decide +kernel
theorem dX6_setExtra_29 : decode cX6_setExtra 29 = .ok (.invokevirtual 154, 3) := by decide +kernel
theorem dX6_setExtra_32 : decode cX6_setExtra 32 = .ok (.istore_n 3, 1) := by decide +kernel
theorem dX6_setExtra_33 : decode cX6_setExtra 33 = .ok (.aload_n 0, 1) := by decide +kernel
theorem dX6_setExtra_34 : decode cX6_setExtra 34 = .ok (.invokevirtual 69, 3) := by decide +kernel
theorem dX6_setExtra_37 : decode cX6_setExtra 37 = .ok (.aload_n 0, 1) := by decide +kernel
theorem dX6_setExtra_38 : decode cX6_setExtra 38 = .ok (.getfield 12, 3) := by decide +kernel
theorem dX6_setExtra_41 : decode cX6_setExtra 41 = .ok (.getfield 120, 3) := by decide +kernel
theorem dX6_setExtra_44 : decode cX6_setExtra 44 = .ok (.iload_n 1, 1) := by decide +kernel
theorem dX6_setExtra_45 : decode cX6_setExtra 45 = .ok (.iload_n 2, 1) := by decide +kernel
theorem dX6_setExtra_46 : decode cX6_setExtra 46 = .ok (.invokevirtual 157, 3) := by decide +kernel
theorem dX6_setExtra_49 : decode cX6_setExtra 49 = .ok (.iload_n 3, 1) := by decide +kernel
theorem dX6_setExtra_50 : decode cX6_setExtra 50 = .ok (.ireturn, 1) := by decide +kernel
set_option maxRecDepth 20000 in
theorem ggX6_type_X6_isWithin : GoodIn wsX6_type wsX6_isWithin := goodIn_r _ [8] (by decide +kernel) (by decide +kernel)
set_option maxRecDepth 20000 in
theorem gX6_type_X6_isWithin : GoodIn wsX6_type (va_wsS RX6 55 yX6_isWithin wsX6_isWithin) := goodIn_app (goodIn_of _ (by decide +kernel)) ggX6_type_X6_isWithin
theorem dX6_type_0 : decode cX6_type 0 = .ok (.iload_n 1, 1) := by decide +kernel
theorem dX6_type_1 : decode cX6_type 1 = .ok (.bipush 32, 2) := by decide +kernel
theorem dX6_type_3 : decode cX6_type 3 = .ok (.bipush 126, 2) := by decide +kernel
theorem dX6_type_5 : decode cX6_type 5 = .ok (.invokestatic 55, 3) := by decide +kernel
theorem dX6_type_8 : decode cX6_type 8 = .ok (.ifCond .ne 6, 3) := by decide +kernel
theorem dX6_type_11 : decode cX6_type 11 = .ok (.ldc 54, 2) := by decide +kernel
theorem dX6_type_13 : decode cX6_type 13 = .ok (.ireturn, 1) := by decide +kernel
theorem dX6_type_14 : decode cX6_type 14 = .ok (.aload_n 0, 1) := by decide +kernel
theorem dX6_type_15 : decode cX6_type 15 = .ok (.getfield 160, 3) := by decide +kernel
theorem dX6_type_18 : decode cX6_type 18 = .ok (.ifCond .lt 15, 3) := by decide +kernel
theorem dX6_type_21 : decode cX6_type 21 = .ok (.aload_n 0, 1) := by decide +kernel
theorem dX6_type_22 : decode cX6_type 22 = .ok (.getfield 160, 3) := by decide +kernel
theorem dX6_type_25 : decode cX6_type 25 = .ok (.aload_n 0, 1) := by decide +kernel
theorem dX6_type_26 : decode cX6_type 26 = .ok (.getfield 20, 3) := by decide +kernel
theorem dX6_type_29 : decode cX6_type 29 = .ok (.arraylength, 1) := by decide +kernel
theorem dX6_type_30 : decode cX6_type 30 = .ok (.if_icmp .lt 6, 3) := by decide +kernel
theorem dX6_type_33 : decode cX6_type 33 = .ok (.ldc 140, 2) := by decide +kernel
theorem dX6_type_35 : decode cX6_type 35 = .ok (.ireturn, 1) := by decide +kernel
theorem dX6_type_36 : decode cX6_type 36 = .ok (.aload_n 0, 1) := by decide +kernel
theorem dX6_type_37 : decode cX6_type 37 = .ok (.getfield 20, 3) := by decide +kernel
theorem dX6_type_40 : decode cX6_type 40 = .ok (.aload_n 0, 1) := by decide +kernel
theorem dX6_type_41 : decode cX6_type 41 = .ok (.getfield 160, 3) := by decide +kernel
theorem dX6_type_44 : decode cX6_type 44 = .ok (.iload_n 1, 1) := by decide +kernel
theorem dX6_type_45 : decode cX6_type 45 = .ok (.iastore, 1) := by decide +kernel
theorem dX6_type_46 : decode cX6_type 46 = .ok (.aload_n 0, 1) := by decide +kernel
theorem dX6_type_47 : decode cX6_type 47 = .ok (.dup, 1) := by decide +kernel
theorem dX6_type_48 : decode cX6_type 48 = .ok (.getfield 160, 3) := by decide +kernel
theorem dX6_type_51 : decode cX6_type 51 = .ok (.iconst 1, 1) := by decide +kernel
theorem dX6_type_52 : decode cX6_type 52 = .ok (.iadd, 1) := by decide +kernel
theorem dX6_type_53 : decode cX6_type 53 = .ok (.putfield 160, 3) := by decide +kernel
theorem dX6_type_56 : decode cX6_type 56 = .ok (.aload_n 0, 1) := by decide +kernel
theorem dX6_type_57 : decode cX6_type 57 = .ok (.getfield 160, 3) := by decide +kernel
theorem dX6_type_60 : decode cX6_type 60 = .ok (.ireturn, 1) := by decide +kernel
theorem dX6_clear_0 : decode cX6_clear 0 = .ok (.aload_n 0, 1) := by decide +kernel
theorem dX6_clear_1 : decode cX6_clear 1 = .ok (.getfield 160, 3) := by decide +kernel
theorem dX6_clear_4 : decode cX6_clear 4 = .ok (.istore_n 1, 1) := by decide +kernel
theorem dX6_clear_5 : decode cX6_clear 5 = .ok (.aload_n 0, 1) := by decide +kernel
theorem dX6_clear_6 : decode cX6_clear 6 = .ok (.iconst 0, 1) := by decide +kernel
theorem dX6_clear_7 : decode cX6_clear 7 = .ok (.putfield 160, 3) := by decide +kernel
theorem dX6_clear_10 : decode cX6_clear 10 = .ok (.iload_n 1, 1) := by decide +kernel
theorem dX6_clear_11 : decode cX6_clear 11 = .ok (.ireturn, 1) := by decide +kernel
set_option maxRecDepth 20000 in
theorem ggX6_rule_X6_readBuffer : GoodIn wsX6_rule wsX6_readBuffer := goodIn_r _ [10, 2, 1, 11, 12, 13, 14, 15, 16, 17, 18, 19, 20, 21, 22, 23, 24, 25, 26, 27, 28, 29, 30, 31, 32, 33, 34, 9, 35, 36, 37, 38, 39, 40, 41, 42, 43, 44, 45, 46, 47, 48, 49, 50, 51, 52, 53, 54, 55, 56, 57, 58, 59, 60, 61, 62, 63, 64, 65, 66, 67, 68, 69, 70, 71, 72, 73, 74, 75, 76, 77, 78, 79, 80, 81, 82, 83, 84, 85, 86, 87, 88, 89, 90, 91, 92, 93, 94, 95, 96, 97, 98, 99, 100, 101, 102, 103, 104, 105, 106, 107, 108, 109, 110, 111, 112, 113, 114, 115, 116, 117, 118, 119, 120, 121, 122, 123, 124, 125, 126, 127, 128, 129, 130, 131, 132, 133, 134, 135, 136, 137, 138, 139, 140, 141, 142, 143, 144, 145, 146, 147, 148, 149, 150, 151, 152, 153, 278, 279, 280, 281, 282, 283, 284, 285, 292, 293, 294, 295, 296, 297, 298, 299, 300] (by decide +kernel) (by decide +kernel)
set_option maxRecDepth 20000 in
theorem gX6_rule_X6_readBuffer : GoodIn wsX6_rule (wsV RX6 163 RX6 yX6_readBuffer wsX6_readBuffer) := goodIn_app (goodIn_of _ (by decide +kernel)) ggX6_rule_X6_readBuffer
set_option maxRecDepth 20000 in
theorem ggX6_rule_X1_isComplete : GoodIn wsX6_rule wsX1_isComplete := goodIn_r _ [157, 18, 135, 292, 293, 294, 295, 296, 297, 298, 299, 300] (by decide +kernel) (by decide +kernel)
set_option maxRecDepth 20000 in
theorem gX6_rule_X1_isComplete : GoodIn wsX6_rule (wsV RX6 166 RX1 yX1_isComplete wsX1_isComplete) := goodIn_app (goodIn_of _ (by decide +kernel)) ggX6_rule_X1_isComplete
set_option maxRecDepth 20000 in
theorem ggX6_rule_X2_count : GoodIn wsX6_rule wsX2_count := goodIn_r _ [162, 163, 164, 301, 302, 303, 304, 305] (by decide +kernel) (by decide +kernel)
set_option maxRecDepth 20000 in
theorem gX6_rule_X2_count : GoodIn wsX6_rule (wsV RX6 173 RX2 yX2_count wsX2_count) := goodIn_app (goodIn_of _ (by decide +kernel)) ggX6_rule_X2_count
set_option maxRecDepth 20000 in
theorem ggX6_rule_X6_remember : GoodIn wsX6_rule wsX6_remember := goodIn_r _ [168, 169, 170, 3, 171, 172, 173, 174, 175, 176, 177, 178, 179, 180, 181, 182, 183, 184, 185, 186, 187, 188, 189, 190, 191, 192, 193, 194, 195, 196, 197, 198, 199, 200, 201, 202, 203, 204, 205, 206, 207, 208, 34, 9, 35, 209, 210, 211, 212, 213, 214, 215, 216, 217, 218, 219, 220, 221, 222, 223, 224, 225, 226, 227, 228, 229, 230, 231, 232, 233, 234, 235, 236, 237, 238, 239, 240, 241, 242, 161, 243, 163, 244, 245, 246, 247, 248, 249, 250, 251, 252, 69, 66, 70, 253, 254, 255, 256, 257, 278, 279, 280, 281, 282, 283, 284, 285, 286, 287, 288, 289, 290, 291, 306, 307, 308, 309, 310, 311, 312, 313, 314, 315, 316, 317, 318, 319, 320, 301, 302, 303, 304, 305] (by decide +kernel) (by decide +kernel)
set_option maxRecDepth 20000 in
theorem gX6_rule_X6_remember : GoodIn wsX6_rule (wsV RX6 69 RX6 yX6_remember wsX6_remember) := goodIn_app (goodIn_of _ (by decide +kernel)) ggX6_rule_X6_remember
set_option maxRecDepth 20000 in
theorem ggX6_rule_X2_addRule : GoodIn wsX6_rule wsX2_addRule := goodIn_r _ [261, 163, 262, 263, 264, 265, 266, 267, 247, 268, 249, 269, 270, 271, 272, 273, 250, 251, 274, 275, 276, 15, 277, 33, 34, 9, 35, 301, 292, 293, 294, 295, 296, 297, 298, 299, 300, 302, 303, 304, 305] (by decide +kernel) (by decide +kernel)
set_option maxRecDepth 20000 in
theorem gX6_rule_X2_addRule : GoodIn wsX6_rule (wsV RX6 178 RX2 yX2_addRule wsX2_addRule) := goodIn_app (goodIn_of _ (by decide +kernel)) ggX6_rule_X2_addRule
theorem dX6_rule_0 : decode cX6_rule 0 = .ok (.aload_n 0, 1) := by decide +kernel
theorem dX6_rule_1 : decode cX6_rule 1 = .ok (.invokevirtual 163, 3) := by decide +kernel
theorem dX6_rule_4 : decode cX6_rule 4 = .ok (.istore_n 1, 1) := by decide +kernel
theorem dX6_rule_5 : decode cX6_rule 5 = .ok (.iload_n 1, 1) := by decide +kernel
theorem dX6_rule_6 : decode cX6_rule 6 = .ok (.aload_n 0, 1) := by decide +kernel
theorem dX6_rule_7 : decode cX6_rule 7 = .ok (.getfield 160, 3) := by decide +kernel
theorem dX6_rule_10 : decode cX6_rule 10 = .ok (.if_icmp .lt 13, 3) := by decide +kernel
theorem dX6_rule_13 : decode cX6_rule 13 = .ok (.aload_n 0, 1) := by decide +kernel
theorem dX6_rule_14 : decode cX6_rule 14 = .ok (.getfield 27, 3) := by decide +kernel
theorem dX6_rule_17 : decode cX6_rule 17 = .ok (.invokevirtual 166, 3) := by decide +kernel
theorem dX6_rule_20 : decode cX6_rule 20 = .ok (.ifCond .ne 8, 3) := by decide +kernel
theorem dX6_rule_23 : decode cX6_rule 23 = .ok (.bipush (-100), 2) := by decide +kernel
theorem dX6_rule_25 : decode cX6_rule 25 = .ok (.iload_n 1, 1) := by decide +kernel
theorem dX6_rule_26 : decode cX6_rule 26 = .ok (.isub, 1) := by decide +kernel
theorem dX6_rule_27 : decode cX6_rule 27 = .ok (.ireturn, 1) := by decide +kernel
theorem dX6_rule_28 : decode cX6_rule 28 = .ok (.aload_n 0, 1) := by decide +kernel
theorem dX6_rule_29 : decode cX6_rule 29 = .ok (.getfield 12, 3) := by decide +kernel
theorem dX6_rule_32 : decode cX6_rule 32 = .ok (.getfield 169, 3) := by decide +kernel
theorem dX6_rule_35 : decode cX6_rule 35 = .ok (.invokevirtual 173, 3) := by decide +kernel
theorem dX6_rule_38 : decode cX6_rule 38 = .ok (.bipush 8, 2) := by decide +kernel
theorem dX6_rule_40 : decode cX6_rule 40 = .ok (.if_icmp .lt 6, 3) := by decide +kernel
theorem dX6_rule_43 : decode cX6_rule 43 = .ok (.ldc 140, 2) := by decide +kernel
theorem dX6_rule_45 : decode cX6_rule 45 = .ok (.ireturn, 1) := by decide +kernel
theorem dX6_rule_46 : decode cX6_rule 46 = .ok (.aload_n 0, 1) := by decide +kernel
theorem dX6_rule_47 : decode cX6_rule 47 = .ok (.invokevirtual 69, 3) := by decide +kernel
theorem dX6_rule_50 : decode cX6_rule 50 = .ok (.aload_n 0, 1) := by decide +kernel
theorem dX6_rule_51 : decode cX6_rule 51 = .ok (.getfield 12, 3) := by decide +kernel
theorem dX6_rule_54 : decode cX6_rule 54 = .ok (.getfield 169, 3) := by decide +kernel
theorem dX6_rule_57 : decode cX6_rule 57 = .ok (.aload_n 0, 1) := by decide +kernel
theorem dX6_rule_58 : decode cX6_rule 58 = .ok (.getfield 27, 3) := by decide +kernel
theorem dX6_rule_61 : decode cX6_rule 61 = .ok (.invokevirtual 178, 3) := by decide +kernel
theorem dX6_rule_64 : decode cX6_rule 64 = .ok (.aload_n 0, 1) := by decide +kernel
theorem dX6_rule_65 : decode cX6_rule 65 = .ok (.iconst 0, 1) := by decide +kernel
theorem dX6_rule_66 : decode cX6_rule 66 = .ok (.putfield 160, 3) := by decide +kernel
theorem dX6_rule_69 : decode cX6_rule 69 = .ok (.aload_n 0, 1) := by decide +kernel
theorem dX6_rule_70 : decode cX6_rule 70 = .ok (.getfield 12, 3) := by decide +kernel
theorem dX6_rule_73 : decode cX6_rule 73 = .ok (.getfield 169, 3) := by decide +kernel
theorem dX6_rule_76 : decode cX6_rule 76 = .ok (.invokevirtual 173, 3) := by decide +kernel
theorem dX6_rule_79 : decode cX6_rule 79 = .ok (.ireturn, 1) := by decide +kernel
set_option maxRecDepth 20000 in
theorem ggX6_unrule_X2_count : GoodIn wsX6_unrule wsX2_count := goodIn_r _ [8, 9, 10, 131, 132, 133, 134, 135] (by decide +kernel) (by decide +kernel)
set_option maxRecDepth 20000 in
theorem gX6_unrule_X2_count : GoodIn wsX6_unrule (wsV RX6 173 RX2 yX2_count wsX2_count) := goodIn_app (goodIn_of _ (by decide +kernel)) ggX6_unrule_X2_count
set_option maxRecDepth 20000 in
theorem ggX6_unrule_X6_remember : GoodIn wsX6_unrule wsX6_remember := goodIn_r _ [15, 16, 17, 1, 18, 19, 20, 21, 22, 23, 24, 25, 26, 27, 28, 29, 30, 31, 32, 33, 34, 35, 36, 37, 38, 39, 40, 41, 42, 43, 44, 45, 46, 47, 48, 49, 50, 51, 52, 53, 54, 55, 56, 14, 57, 58, 59, 60, 61, 62, 63, 64, 65, 66, 67, 68, 69, 70, 71, 72, 73, 74, 75, 76, 77, 78, 79, 80, 81, 82, 83, 84, 85, 86, 87, 88, 89, 90, 91, 7, 92, 9, 93, 94, 95, 96, 97, 98, 99, 100, 101, 102, 103, 104, 105, 106, 107, 108, 109, 117, 118, 119, 120, 121, 122, 123, 124, 125, 126, 127, 128, 129, 130, 136, 137, 138, 139, 140, 141, 142, 143, 144, 145, 146, 147, 148, 149, 150, 131, 132, 133, 134, 135] (by decide +kernel) (by decide +kernel)
set_option maxRecDepth 20000 in
theorem gX6_unrule_X6_remember : GoodIn wsX6_unrule (wsV RX6 69 RX6 yX6_remember wsX6_remember) := goodIn_app (goodIn_of _ (by decide +kernel)) ggX6_unrule_X6_remember
set_option maxRecDepth 20000 in
theorem ggX6_unrule_X2_dropRule : GoodIn wsX6_unrule wsX2_dropRule := goodIn_r _ [113, 9, 10, 114, 115, 103, 116, 131, 132, 133, 134, 135] (by decide +kernel) (by decide +kernel)
set_option maxRecDepth 20000 in
theorem gX6_unrule_X2_dropRule : GoodIn wsX6_unrule (wsV RX6 182 RX2 yX2_dropRule wsX2_dropRule) := goodIn_app (goodIn_of _ (by decide +kernel)) ggX6_unrule_X2_dropRule
theorem dX6_unrule_0 : decode cX6_unrule 0 = .ok (.aload_n 0, 1) := by decide +kernel
theorem dX6_unrule_1 : decode cX6_unrule 1 = .ok (.getfield 12, 3) := by decide +kernel
theorem dX6_unrule_4 : decode cX6_unrule 4 = .ok (.getfield 169, 3) := by decide +kernel
theorem dX6_unrule_7 : decode cX6_unrule 7 = .ok (.invokevirtual 173, 3) := by decide +kernel
theorem dX6_unrule_10 : decode cX6_unrule 10 = .ok (.ifCond .gt 6, 3) := by decide +kernel
theorem dX6_unrule_13 : decode cX6_unrule 13 = .ok (.ldc 87, 2) := by decide +kernel
theorem dX6_unrule_15 : decode cX6_unrule 15 = .ok (.ireturn, 1) := by decide +kernel
theorem dX6_unrule_16 : decode cX6_unrule 16 = .ok (.aload_n 0, 1) := by decide +kernel
theorem dX6_unrule_17 : decode cX6_unrule 17 = .ok (.invokevirtual 69, 3) := by decide +kernel
theorem dX6_unrule_20 : decode cX6_unrule 20 = .ok (.aload_n 0, 1) := by decide +kernel
theorem dX6_unrule_21 : decode cX6_unrule 21 = .ok (.getfield 12, 3) := by decide +kernel
theorem dX6_unrule_24 : decode cX6_unrule 24 = .ok (.getfield 169, 3) := by decide +kernel
theorem dX6_unrule_27 : decode cX6_unrule 27 = .ok (.invokevirtual 182, 3) := by decide +kernel
theorem dX6_unrule_30 : decode cX6_unrule 30 = .ok (.aload_n 0, 1) := by decide +kernel
theorem dX6_unrule_31 : decode cX6_unrule 31 = .ok (.getfield 12, 3) := by decide +kernel
theorem dX6_unrule_34 : decode cX6_unrule 34 = .ok (.getfield 169, 3) := by decide +kernel
theorem dX6_unrule_37 : decode cX6_unrule 37 = .ok (.invokevirtual 173, 3) := by decide +kernel
theorem dX6_unrule_40 : decode cX6_unrule 40 = .ok (.ireturn, 1) := by decide +kernel
set_option maxRecDepth 20000 in
theorem ggX6_rules_X2_count : GoodIn wsX6_rules wsX2_count := goodIn_r _ [7, 8, 9, 24, 25, 26, 27, 28] (by decide +kernel) (by decide +kernel)
set_option maxRecDepth 20000 in
theorem gX6_rules_X2_count : GoodIn wsX6_rules (wsV RX6 173 RX2 yX2_count wsX2_count) := goodIn_app (goodIn_of _ (by decide +kernel)) ggX6_rules_X2_count
theorem dX6_rules_0 : decode cX6_rules 0 = .ok (.aload_n 0, 1) := by decide +kernel
theorem dX6_rules_1 : decode cX6_rules 1 = .ok (.getfield 12, 3) := by decide +kernel
theorem dX6_rules_4 : decode cX6_rules 4 = .ok (.getfield 169, 3) := by decide +kernel
theorem dX6_rules_7 : decode cX6_rules 7 = .ok (.invokevirtual 173, 3) := by decide +kernel
theorem dX6_rules_10 : decode cX6_rules 10 = .ok (.ireturn, 1) := by decide +kernel
set_option maxRecDepth 20000 in
theorem ggX6_take_X6_areSides : GoodIn wsX6_take wsX6_areSides := goodIn_r _ [11, 12, 13, 10, 14, 15, 16, 17] (by decide +kernel) (by decide +kernel)
set_option maxRecDepth 20000 in
theorem gX6_take_X6_areSides : GoodIn wsX6_take (va_wsS RX6 185 yX6_areSides wsX6_areSides) := goodIn_app (goodIn_of _ (by decide +kernel)) ggX6_take_X6_areSides
set_option maxRecDepth 20000 in
theorem ggX6_take_X6_isZone : GoodIn wsX6_take wsX6_isZone := goodIn_r _ [20, 15, 16, 10, 17] (by decide +kernel) (by decide +kernel)
set_option maxRecDepth 20000 in
theorem gX6_take_X6_isZone : GoodIn wsX6_take (va_wsS RX6 116 yX6_isZone wsX6_isZone) := goodIn_app (goodIn_of _ (by decide +kernel)) ggX6_take_X6_isZone
set_option maxRecDepth 20000 in
theorem ggX6_take_X3_isSteady : GoodIn wsX6_take wsX3_isSteady := goodIn_r _ [25, 26, 27, 28, 29, 30, 31, 32, 33, 34, 35, 36, 37, 38, 39, 24, 40, 41, 263, 264, 265, 266, 267, 268, 269, 270, 271, 272, 273] (by decide +kernel) (by decide +kernel)
set_option maxRecDepth 20000 in
theorem gX6_take_X3_isSteady : GoodIn wsX6_take (wsV RX6 94 RX3 yX3_isSteady wsX3_isSteady) := goodIn_app (goodIn_of _ (by decide +kernel)) ggX6_take_X3_isSteady
set_option maxRecDepth 20000 in
theorem ggX6_take_X3_isOver : GoodIn wsX6_take wsX3_isOver := goodIn_r _ [45, 46, 47, 48, 24, 49, 50, 51, 52, 53, 54, 55, 56, 37, 38, 39, 40, 41, 57, 58, 59, 60, 263, 264, 265, 266, 267, 268, 269, 270, 271, 272, 273] (by decide +kernel) (by decide +kernel)
set_option maxRecDepth 20000 in
theorem gX6_take_X3_isOver : GoodIn wsX6_take (wsV RX6 107 RX3 yX3_isOver wsX3_isOver) := goodIn_app (goodIn_of _ (by decide +kernel)) ggX6_take_X3_isOver
set_option maxRecDepth 20000 in
theorem ggX6_take_X3_netWeight : GoodIn wsX6_take wsX3_netWeight := goodIn_r _ [64, 65, 66, 67, 68, 24, 69, 50, 37, 38, 39, 40, 41, 51, 52, 53, 54, 55, 56, 57, 58, 59, 60, 263, 264, 265, 266, 267, 268, 269, 270, 271, 272, 273] (by decide +kernel) (by decide +kernel)
set_option maxRecDepth 20000 in
theorem gX6_take_X3_netWeight : GoodIn wsX6_take (wsV RX6 188 RX3 yX3_netWeight wsX3_netWeight) := goodIn_app (goodIn_of _ (by decide +kernel)) ggX6_take_X3_netWeight
set_option maxRecDepth 20000 in
theorem ggX6_take_X6_hasBands : GoodIn wsX6_take wsX6_hasBands := goodIn_r _ [73, 2, 74, 75, 76, 77, 78, 79, 80, 81, 10, 82, 245, 246, 247, 248, 249, 250, 251, 252, 253, 254, 255, 256, 257, 258, 274, 275, 276, 277] (by decide +kernel) (by decide +kernel)
set_option maxRecDepth 20000 in
theorem gX6_take_X6_hasBands : GoodIn wsX6_take (wsV RX6 191 RX6 yX6_hasBands wsX6_hasBands) := goodIn_app (goodIn_of _ (by decide +kernel)) ggX6_take_X6_hasBands
set_option maxRecDepth 20000 in
theorem ggX6_take_X6_remember : GoodIn wsX6_take wsX6_remember := goodIn_r _ [86, 87, 88, 2, 89, 90, 91, 92, 93, 94, 95, 96, 97, 98, 99, 100, 101, 102, 103, 24, 104, 41, 55, 105, 50, 65, 56, 106, 36, 26, 27, 28, 37, 38, 39, 40, 107, 108, 109, 78, 110, 80, 81, 10, 82, 111, 76, 77, 79, 112, 113, 114, 115, 116, 117, 118, 119, 120, 121, 122, 123, 124, 125, 126, 127, 128, 129, 130, 131, 132, 133, 134, 135, 136, 137, 138, 139, 140, 141, 142, 143, 144, 145, 146, 147, 148, 149, 150, 151, 152, 153, 34, 31, 35, 154, 155, 156, 157, 158, 245, 246, 247, 248, 249, 250, 251, 252, 253, 254, 255, 256, 257, 258, 263, 264, 265, 266, 267, 268, 269, 270, 271, 272, 273, 274, 275, 276, 277, 278, 259, 260, 261, 262] (by decide +kernel) (by decide +kernel)
set_option maxRecDepth 20000 in
theorem gX6_take_X6_remember : GoodIn wsX6_take (wsV RX6 69 RX6 yX6_remember wsX6_remember) := goodIn_app (goodIn_of _ (by decide +kernel)) ggX6_take_X6_remember
set_option maxRecDepth 20000 in
theorem ggX6_take_X5_addRow : GoodIn wsX6_take wsX5_addRow := goodIn_r _ [162, 150, 163, 259, 260, 261, 262] (by decide +kernel) (by decide +kernel)
set_option maxRecDepth 20000 in
theorem gX6_take_X5_addRow : GoodIn wsX6_take (wsV RX6 40 RX5 yX5_addRow wsX5_addRow) := goodIn_app (goodIn_of _ (by decide +kernel)) ggX6_take_X5_addRow
set_option maxRecDepth 20000 in
theorem ggX6_take_X6_describe : GoodIn wsX6_take wsX6_describe := goodIn_r _ [166, 167, 168, 169, 148, 170, 163, 151, 152, 259, 260, 261, 262] (by decide +kernel) (by decide +kernel)
set_option maxRecDepth 20000 in
theorem gX6_take_X6_describe : GoodIn wsX6_take (va_wsS RX6 199 yX6_describe wsX6_describe) := goodIn_app (goodIn_of _ (by decide +kernel)) ggX6_take_X6_describe
set_option maxRecDepth 20000 in
theorem ggX6_take_X4_price : GoodIn wsX6_take wsX4_price := goodIn_r _ [174, 175, 95, 176, 30, 31, 32, 96, 97, 177, 178, 179, 148, 180, 163, 151, 152, 181, 10, 182, 183, 184, 38, 39, 24, 40, 41, 185, 186, 187, 168, 169, 170, 188, 189, 93, 190, 191, 192, 193, 194, 195, 167, 196, 197, 198, 78, 199, 200, 201, 202, 203, 204, 111, 76, 77, 79, 80, 81, 82, 112, 113, 114, 115, 116, 117, 118, 119, 120, 121, 122, 123, 124, 125, 205, 206, 207, 208, 130, 131, 132, 133, 134, 209, 210, 211, 142, 212, 144, 213, 214, 215, 216, 217, 218, 219, 220, 221, 222, 223, 224, 225, 226, 227, 228, 229, 230, 231, 232, 233, 234, 235, 236, 237, 238, 239, 240, 241, 242, 243, 244, 253, 254, 255, 256, 257, 258, 259, 260, 261, 262, 263, 264, 265, 266, 267, 268, 269, 270, 271, 272, 273, 274, 275, 276, 277, 278] (by decide +kernel) (by decide +kernel)
set_option maxRecDepth 20000 in
theorem gX6_take_X4_price : GoodIn wsX6_take (wsV RX6 203 RX4 yX4_price wsX4_price) := goodIn_app (goodIn_of _ (by decide +kernel)) ggX6_take_X4_price
theorem dX6_take_0 : decode cX6_take 0 = .ok (.iload_n 1, 1) := by decide +kernel
theorem dX6_take_1 : decode cX6_take 1 = .ok (.iload_n 2, 1) := by decide +kernel
theorem dX6_take_2 : decode cX6_take 2 = .ok (.iload_n 3, 1) := by decide +kernel
theorem dX6_take_3 : decode cX6_take 3 = .ok (.invokestatic 185, 3) := by decide +kernel
theorem dX6_take_6 : decode cX6_take 6 = .ok (.ifCond .eq 11, 3) := by decide +kernel
theorem dX6_take_9 : decode cX6_take 9 = .ok (.iload 4, 2) := by decide +kernel
theorem dX6_take_11 : decode cX6_take 11 = .ok (.invokestatic 116, 3) := by decide +kernel
theorem dX6_take_14 : decode cX6_take 14 = .ok (.ifCond .ne 6, 3) := by decide +kernel
theorem dX6_take_17 : decode cX6_take 17 = .ok (.ldc 54, 2) := by decide +kernel
theorem dX6_take_19 : decode cX6_take 19 = .ok (.ireturn, 1) := by decide +kernel
theorem dX6_take_20 : decode cX6_take 20 = .ok (.aload_n 0, 1) := by decide +kernel
theorem dX6_take_21 : decode cX6_take 21 = .ok (.getfield 12, 3) := by decide +kernel
theorem dX6_take_24 : decode cX6_take 24 = .ok (.getfield 59, 3) := by decide +kernel
theorem dX6_take_27 : decode cX6_take 27 = .ok (.astore 5, 2) := by decide +kernel
theorem dX6_take_29 : decode cX6_take 29 = .ok (.aload 5, 2) := by decide +kernel
theorem dX6_take_31 : decode cX6_take 31 = .ok (.invokevirtual 94, 3) := by decide +kernel
theorem dX6_take_34 : decode cX6_take 34 = .ok (.ifCond .eq 29, 3) := by decide +kernel
theorem dX6_take_37 : decode cX6_take 37 = .ok (.aload 5, 2) := by decide +kernel
theorem dX6_take_39 : decode cX6_take 39 = .ok (.invokevirtual 107, 3) := by decide +kernel
theorem dX6_take_42 : decode cX6_take 42 = .ok (.ifCond .ne 21, 3) := by decide +kernel
theorem dX6_take_45 : decode cX6_take 45 = .ok (.aload 5, 2) := by decide +kernel
theorem dX6_take_47 : decode cX6_take 47 = .ok (.invokevirtual 188, 3) := by decide +kernel
theorem dX6_take_50 : decode cX6_take 50 = .ok (.iconst 1, 1) := by decide +kernel
theorem dX6_take_51 : decode cX6_take 51 = .ok (.if_icmp .lt 12, 3) := by decide +kernel
theorem dX6_take_54 : decode cX6_take 54 = .ok (.aload_n 0, 1) := by decide +kernel
theorem dX6_take_55 : decode cX6_take 55 = .ok (.iload 4, 2) := by decide +kernel
theorem dX6_take_57 : decode cX6_take 57 = .ok (.invokevirtual 191, 3) := by decide +kernel
theorem dX6_take_60 : decode cX6_take 60 = .ok (.ifCond .ne 6, 3) := by decide +kernel
theorem dX6_take_63 : decode cX6_take 63 = .ok (.ldc 87, 2) := by decide +kernel
theorem dX6_take_65 : decode cX6_take 65 = .ok (.ireturn, 1) := by decide +kernel
theorem dX6_take_66 : decode cX6_take 66 = .ok (.aload_n 0, 1) := by decide +kernel
theorem dX6_take_67 : decode cX6_take 67 = .ok (.getfield 12, 3) := by decide +kernel
theorem dX6_take_70 : decode cX6_take 70 = .ok (.getfield 194, 3) := by decide +kernel
theorem dX6_take_73 : decode cX6_take 73 = .ok (.getfield 197, 3) := by decide +kernel
theorem dX6_take_76 : decode cX6_take 76 = .ok (.bipush 30, 2) := by decide +kernel
theorem dX6_take_78 : decode cX6_take 78 = .ok (.if_icmp .lt 6, 3) := by decide +kernel
theorem dX6_take_81 : decode cX6_take 81 = .ok (.ldc 140, 2) := by decide +kernel
theorem dX6_take_83 : decode cX6_take 83 = .ok (.ireturn, 1) := by decide +kernel
theorem dX6_take_84 : decode cX6_take 84 = .ok (.aload_n 0, 1) := by decide +kernel
theorem dX6_take_85 : decode cX6_take 85 = .ok (.invokevirtual 69, 3) := by decide +kernel
theorem dX6_take_88 : decode cX6_take 88 = .ok (.aload_n 0, 1) := by decide +kernel
theorem dX6_take_89 : decode cX6_take 89 = .ok (.getfield 12, 3) := by decide +kernel
theorem dX6_take_92 : decode cX6_take 92 = .ok (.getfield 194, 3) := by decide +kernel
theorem dX6_take_95 : decode cX6_take 95 = .ok (.invokevirtual 40, 3) := by decide +kernel
theorem dX6_take_98 : decode cX6_take 98 = .ok (.istore 6, 2) := by decide +kernel
theorem dX6_take_100 : decode cX6_take 100 = .ok (.aload_n 0, 1) := by decide +kernel
theorem dX6_take_101 : decode cX6_take 101 = .ok (.getfield 12, 3) := by decide +kernel
theorem dX6_take_104 : decode cX6_take 104 = .ok (.getfield 194, 3) := by decide +kernel
theorem dX6_take_107 : decode cX6_take 107 = .ok (.iload 6, 2) := by decide +kernel
theorem dX6_take_109 : decode cX6_take 109 = .ok (.aload 5, 2) := by decide +kernel
theorem dX6_take_111 : decode cX6_take 111 = .ok (.invokevirtual 188, 3) := by decide +kernel
theorem dX6_take_114 : decode cX6_take 114 = .ok (.iload_n 1, 1) := by decide +kernel
theorem dX6_take_115 : decode cX6_take 115 = .ok (.iload_n 2, 1) := by decide +kernel
theorem dX6_take_116 : decode cX6_take 116 = .ok (.iload_n 3, 1) := by decide +kernel
theorem dX6_take_117 : decode cX6_take 117 = .ok (.iload 4, 2) := by decide +kernel
theorem dX6_take_119 : decode cX6_take 119 = .ok (.invokestatic 199, 3) := by decide +kernel
theorem dX6_take_122 : decode cX6_take 122 = .ok (.aload_n 0, 1) := by decide +kernel
theorem dX6_take_123 : decode cX6_take 123 = .ok (.getfield 12, 3) := by decide +kernel
theorem dX6_take_126 : decode cX6_take 126 = .ok (.aload_n 0, 1) := by decide +kernel
theorem dX6_take_127 : decode cX6_take 127 = .ok (.getfield 12, 3) := by decide +kernel
theorem dX6_take_130 : decode cX6_take 130 = .ok (.getfield 194, 3) := by decide +kernel
theorem dX6_take_133 : decode cX6_take 133 = .ok (.iload 6, 2) := by decide +kernel
theorem dX6_take_135 : decode cX6_take 135 = .ok (.invokevirtual 203, 3) := by decide +kernel
theorem dX6_take_138 : decode cX6_take 138 = .ok (.iload 6, 2) := by decide +kernel
theorem dX6_take_140 : decode cX6_take 140 = .ok (.ireturn, 1) := by decide +kernel
set_option maxRecDepth 20000 in
theorem ggX6_quote_X6_isWithin : GoodIn wsX6_quote wsX6_isWithin := goodIn_r _ [8] (by decide +kernel) (by decide +kernel)
set_option maxRecDepth 20000 in
theorem gX6_quote_X6_isWithin : GoodIn wsX6_quote (va_wsS RX6 55 yX6_isWithin wsX6_isWithin) := goodIn_app (goodIn_of _ (by decide +kernel)) ggX6_quote_X6_isWithin
set_option maxRecDepth 20000 in
theorem ggX6_quote_X6_areSides : GoodIn wsX6_quote wsX6_areSides := goodIn_r _ [11, 12, 13, 7, 14, 5, 6, 8] (by decide +kernel) (by decide +kernel)
set_option maxRecDepth 20000 in
theorem gX6_quote_X6_areSides : GoodIn wsX6_quote (va_wsS RX6 185 yX6_areSides wsX6_areSides) := goodIn_app (goodIn_of _ (by decide +kernel)) ggX6_quote_X6_areSides
set_option maxRecDepth 20000 in
theorem ggX6_quote_X6_isZone : GoodIn wsX6_quote wsX6_isZone := goodIn_r _ [17, 5, 6, 7, 8] (by decide +kernel) (by decide +kernel)
set_option maxRecDepth 20000 in
theorem gX6_quote_X6_isZone : GoodIn wsX6_quote (va_wsS RX6 116 yX6_isZone wsX6_isZone) := goodIn_app (goodIn_of _ (by decide +kernel)) ggX6_quote_X6_isZone
set_option maxRecDepth 20000 in
theorem ggX6_quote_X6_hasBands : GoodIn wsX6_quote wsX6_hasBands := goodIn_r _ [21, 22, 23, 24, 25, 26, 27, 28, 29, 30, 7, 31, 155, 156, 157, 158, 159, 160, 161, 162, 163, 164, 165, 166, 167, 168, 169, 170, 171, 172] (by decide +kernel) (by decide +kernel)
set_option maxRecDepth 20000 in
theorem gX6_quote_X6_hasBands : GoodIn wsX6_quote (wsV RX6 191 RX6 yX6_hasBands wsX6_hasBands) := goodIn_app (goodIn_of _ (by decide +kernel)) ggX6_quote_X6_hasBands
set_option maxRecDepth 20000 in
theorem ggX6_quote_X6_describe : GoodIn wsX6_quote wsX6_describe := goodIn_r _ [34, 35, 36, 37, 38, 39, 40, 41, 42, 173, 174, 175, 176] (by decide +kernel) (by decide +kernel)
set_option maxRecDepth 20000 in
theorem gX6_quote_X6_describe : GoodIn wsX6_quote (va_wsS RX6 199 yX6_describe wsX6_describe) := goodIn_app (goodIn_of _ (by decide +kernel)) ggX6_quote_X6_describe
set_option maxRecDepth 20000 in
theorem ggX6_quote_X6_trialCharge : GoodIn wsX6_quote wsX6_trialCharge := goodIn_r _ [46, 22, 4, 47, 48, 49, 50, 51, 52, 53, 54, 55, 56, 57, 58, 59, 60, 61, 62, 38, 63, 40, 41, 42, 64, 7, 65, 66, 67, 68, 69, 70, 71, 72, 73, 74, 75, 36, 37, 39, 76, 77, 78, 79, 80, 81, 82, 83, 35, 84, 85, 86, 27, 87, 88, 89, 90, 91, 92, 93, 25, 26, 28, 29, 30, 31, 94, 95, 96, 97, 98, 99, 100, 101, 102, 103, 104, 105, 106, 107, 108, 109, 110, 111, 112, 113, 114, 115, 116, 117, 118, 119, 120, 121, 122, 123, 124, 125, 126, 127, 128, 129, 130, 131, 132, 133, 134, 135, 136, 137, 138, 139, 140, 141, 142, 143, 144, 145, 146, 147, 148, 149, 150, 151, 152, 153, 154, 155, 156, 157, 158, 159, 160, 161, 162, 163, 164, 165, 166, 167, 168, 173, 174, 175, 176, 177, 178, 179, 180, 181, 182, 183, 184, 185, 186, 187, 169, 170, 171, 172, 188] (by decide +kernel) (by decide +kernel)
set_option maxRecDepth 20000 in
theorem gX6_quote_X6_trialCharge : GoodIn wsX6_quote (wsV RX6 207 RX6 yX6_trialCharge wsX6_trialCharge) := goodIn_app (goodIn_of _ (by decide +kernel)) ggX6_quote_X6_trialCharge
theorem dX6_quote_0 : decode cX6_quote 0 = .ok (.iload_n 1, 1) := by decide +kernel
theorem dX6_quote_1 : decode cX6_quote 1 = .ok (.iconst 1, 1) := by decide +kernel
theorem dX6_quote_2 : decode cX6_quote 2 = .ok (.ldc 75, 2) := by decide +kernel
theorem dX6_quote_4 : decode cX6_quote 4 = .ok (.invokestatic 55, 3) := by decide +kernel
theorem dX6_quote_7 : decode cX6_quote 7 = .ok (.ifCond .eq 21, 3) := by decide +kernel
theorem dX6_quote_10 : decode cX6_quote 10 = .ok (.iload_n 2, 1) := by decide +kernel
theorem dX6_quote_11 : decode cX6_quote 11 = .ok (.iload_n 3, 1) := by decide +kernel
theorem dX6_quote_12 : decode cX6_quote 12 = .ok (.iload 4, 2) := by decide +kernel
theorem dX6_quote_14 : decode cX6_quote 14 = .ok (.invokestatic 185, 3) := by decide +kernel
theorem dX6_quote_17 : decode cX6_quote 17 = .ok (.ifCond .eq 11, 3) := by decide +kernel
theorem dX6_quote_20 : decode cX6_quote 20 = .ok (.iload 5, 2) := by decide +kernel
theorem dX6_quote_22 : decode cX6_quote 22 = .ok (.invokestatic 116, 3) := by decide +kernel
theorem dX6_quote_25 : decode cX6_quote 25 = .ok (.ifCond .ne 6, 3) := by decide +kernel
theorem dX6_quote_28 : decode cX6_quote 28 = .ok (.ldc 54, 2) := by decide +kernel
theorem dX6_quote_30 : decode cX6_quote 30 = .ok (.ireturn, 1) := by decide +kernel
theorem dX6_quote_31 : decode cX6_quote 31 = .ok (.aload_n 0, 1) := by decide +kernel
theorem dX6_quote_32 : decode cX6_quote 32 = .ok (.iload 5, 2) := by decide +kernel
theorem dX6_quote_34 : decode cX6_quote 34 = .ok (.invokevirtual 191, 3) := by decide +kernel
theorem dX6_quote_37 : decode cX6_quote 37 = .ok (.ifCond .ne 6, 3) := by decide +kernel
theorem dX6_quote_40 : decode cX6_quote 40 = .ok (.ldc 87, 2) := by decide +kernel
theorem dX6_quote_42 : decode cX6_quote 42 = .ok (.ireturn, 1) := by decide +kernel
theorem dX6_quote_43 : decode cX6_quote 43 = .ok (.aload_n 0, 1) := by decide +kernel
theorem dX6_quote_44 : decode cX6_quote 44 = .ok (.getfield 36, 3) := by decide +kernel
theorem dX6_quote_47 : decode cX6_quote 47 = .ok (.iconst 0, 1) := by decide +kernel
theorem dX6_quote_48 : decode cX6_quote 48 = .ok (.iload_n 1, 1) := by decide +kernel
theorem dX6_quote_49 : decode cX6_quote 49 = .ok (.iload_n 2, 1) := by decide +kernel
theorem dX6_quote_50 : decode cX6_quote 50 = .ok (.iload_n 3, 1) := by decide +kernel
theorem dX6_quote_51 : decode cX6_quote 51 = .ok (.iload 4, 2) := by decide +kernel
theorem dX6_quote_53 : decode cX6_quote 53 = .ok (.iload 5, 2) := by decide +kernel
theorem dX6_quote_55 : decode cX6_quote 55 = .ok (.invokestatic 199, 3) := by decide +kernel
theorem dX6_quote_58 : decode cX6_quote 58 = .ok (.aload_n 0, 1) := by decide +kernel
theorem dX6_quote_59 : decode cX6_quote 59 = .ok (.invokevirtual 207, 3) := by decide +kernel
theorem dX6_quote_62 : decode cX6_quote 62 = .ok (.ireturn, 1) := by decide +kernel
set_option maxRecDepth 20000 in
theorem ggX6_parcel_X5_has : GoodIn wsX6_parcel wsX5_has := goodIn_r _ [8, 9, 42, 43, 44, 45] (by decide +kernel) (by decide +kernel)
set_option maxRecDepth 20000 in
theorem gX6_parcel_X5_has : GoodIn wsX6_parcel (wsV RX6 210 RX5 yX5_has wsX5_has) := goodIn_app (goodIn_of _ (by decide +kernel)) ggX6_parcel_X5_has
set_option maxRecDepth 20000 in
theorem ggX6_parcel_X6_isWithin : GoodIn wsX6_parcel wsX6_isWithin := goodIn_r _ [13] (by decide +kernel) (by decide +kernel)
set_option maxRecDepth 20000 in
theorem gX6_parcel_X6_isWithin : GoodIn wsX6_parcel (va_wsS RX6 55 yX6_isWithin wsX6_isWithin) := goodIn_app (goodIn_of _ (by decide +kernel)) ggX6_parcel_X6_isWithin
set_option maxRecDepth 20000 in
theorem ggX6_parcel_X6_openNote : GoodIn wsX6_parcel wsX6_openNote := goodIn_r _ [17, 1, 18, 19, 20, 21, 22, 23, 7, 24, 25, 26, 27, 28, 29, 30, 31, 32, 33, 34, 35, 36, 37, 38, 39, 40, 41, 42, 43, 44, 45] (by decide +kernel) (by decide +kernel)
set_option maxRecDepth 20000 in
theorem gX6_parcel_X6_openNote : GoodIn wsX6_parcel (wsV RX6 213 RX6 yX6_openNote wsX6_openNote) := goodIn_app (goodIn_of _ (by decide +kernel)) ggX6_parcel_X6_openNote
set_option maxRecDepth 20000 in
theorem ggX6_parcel_X5_cell : GoodIn wsX6_parcel wsX5_cell := goodIn_r _ [24, 25, 26, 27, 42, 43, 44, 45] (by decide +kernel) (by decide +kernel)
set_option maxRecDepth 20000 in
theorem gX6_parcel_X5_cell : GoodIn wsX6_parcel (wsV RX6 216 RX5 yX5_cell wsX5_cell) := goodIn_app (goodIn_of _ (by decide +kernel)) ggX6_parcel_X5_cell
theorem dX6_parcel_0 : decode cX6_parcel 0 = .ok (.aload_n 0, 1) := by decide +kernel
theorem dX6_parcel_1 : decode cX6_parcel 1 = .ok (.getfield 12, 3) := by decide +kernel
theorem dX6_parcel_4 : decode cX6_parcel 4 = .ok (.getfield 194, 3) := by decide +kernel
theorem dX6_parcel_7 : decode cX6_parcel 7 = .ok (.iload_n 1, 1) := by decide +kernel
theorem dX6_parcel_8 : decode cX6_parcel 8 = .ok (.invokevirtual 210, 3) := by decide +kernel
theorem dX6_parcel_11 : decode cX6_parcel 11 = .ok (.ifCond .eq 13, 3) := by decide +kernel
theorem dX6_parcel_14 : decode cX6_parcel 14 = .ok (.iload_n 2, 1) := by decide +kernel
theorem dX6_parcel_15 : decode cX6_parcel 15 = .ok (.iconst 0, 1) := by decide +kernel
theorem dX6_parcel_16 : decode cX6_parcel 16 = .ok (.bipush 10, 2) := by decide +kernel
theorem dX6_parcel_18 : decode cX6_parcel 18 = .ok (.invokestatic 55, 3) := by decide +kernel
theorem dX6_parcel_21 : decode cX6_parcel 21 = .ok (.ifCond .ne 6, 3) := by decide +kernel
theorem dX6_parcel_24 : decode cX6_parcel 24 = .ok (.ldc 54, 2) := by decide +kernel
theorem dX6_parcel_26 : decode cX6_parcel 26 = .ok (.ireturn, 1) := by decide +kernel
theorem dX6_parcel_27 : decode cX6_parcel 27 = .ok (.iload_n 2, 1) := by decide +kernel
theorem dX6_parcel_28 : decode cX6_parcel 28 = .ok (.bipush 10, 2) := by decide +kernel
theorem dX6_parcel_30 : decode cX6_parcel 30 = .ok (.if_icmp .ne 11, 3) := by decide +kernel
theorem dX6_parcel_33 : decode cX6_parcel 33 = .ok (.aload_n 0, 1) := by decide +kernel
theorem dX6_parcel_34 : decode cX6_parcel 34 = .ok (.iload_n 1, 1) := by decide +kernel
theorem dX6_parcel_35 : decode cX6_parcel 35 = .ok (.invokevirtual 213, 3) := by decide +kernel
theorem dX6_parcel_38 : decode cX6_parcel 38 = .ok (.goto 15, 3) := by decide +kernel
theorem dX6_parcel_41 : decode cX6_parcel 41 = .ok (.aload_n 0, 1) := by decide +kernel
theorem dX6_parcel_42 : decode cX6_parcel 42 = .ok (.getfield 12, 3) := by decide +kernel
theorem dX6_parcel_45 : decode cX6_parcel 45 = .ok (.getfield 194, 3) := by decide +kernel
theorem dX6_parcel_48 : decode cX6_parcel 48 = .ok (.iload_n 1, 1) := by decide +kernel
theorem dX6_parcel_49 : decode cX6_parcel 49 = .ok (.iload_n 2, 1) := by decide +kernel
theorem dX6_parcel_50 : decode cX6_parcel 50 = .ok (.invokevirtual 216, 3) := by decide +kernel
theorem dX6_parcel_53 : decode cX6_parcel 53 = .ok (.ireturn, 1) := by decide +kernel
set_option maxRecDepth 20000 in
theorem ggX6_why_X5_has : GoodIn wsX6_why wsX5_has := goodIn_r _ [9, 10, 32, 33, 34, 35] (by decide +kernel) (by decide +kernel)
set_option maxRecDepth 20000 in
theorem gX6_why_X5_has : GoodIn wsX6_why (wsV RX6 210 RX5 yX5_has wsX5_has) := goodIn_app (goodIn_of _ (by decide +kernel)) ggX6_why_X5_has
set_option maxRecDepth 20000 in
theorem ggX6_why_X5_cell : GoodIn wsX6_why wsX5_cell := goodIn_r _ [14, 15, 16, 17, 32, 33, 34, 35] (by decide +kernel) (by decide +kernel)
set_option maxRecDepth 20000 in
theorem gX6_why_X5_cell : GoodIn wsX6_why (wsV RX6 216 RX5 yX5_cell wsX5_cell) := goodIn_app (goodIn_of _ (by decide +kernel)) ggX6_why_X5_cell
theorem dX6_why_0 : decode cX6_why 0 = .ok (.aload_n 0, 1) := by decide +kernel
theorem dX6_why_1 : decode cX6_why 1 = .ok (.getfield 12, 3) := by decide +kernel
theorem dX6_why_4 : decode cX6_why 4 = .ok (.getfield 194, 3) := by decide +kernel
theorem dX6_why_7 : decode cX6_why 7 = .ok (.iload_n 1, 1) := by decide +kernel
theorem dX6_why_8 : decode cX6_why 8 = .ok (.invokevirtual 210, 3) := by decide +kernel
theorem dX6_why_11 : decode cX6_why 11 = .ok (.ifCond .eq 7, 3) := by decide +kernel
theorem dX6_why_14 : decode cX6_why 14 = .ok (.iload_n 2, 1) := by decide +kernel
theorem dX6_why_15 : decode cX6_why 15 = .ok (.ifCond .ge 6, 3) := by decide +kernel
theorem dX6_why_18 : decode cX6_why 18 = .ok (.ldc 54, 2) := by decide +kernel
theorem dX6_why_20 : decode cX6_why 20 = .ok (.ireturn, 1) := by decide +kernel
theorem dX6_why_21 : decode cX6_why 21 = .ok (.iload_n 2, 1) := by decide +kernel
theorem dX6_why_22 : decode cX6_why 22 = .ok (.aload_n 0, 1) := by decide +kernel
theorem dX6_why_23 : decode cX6_why 23 = .ok (.getfield 12, 3) := by decide +kernel
theorem dX6_why_26 : decode cX6_why 26 = .ok (.getfield 194, 3) := by decide +kernel
theorem dX6_why_29 : decode cX6_why 29 = .ok (.iload_n 1, 1) := by decide +kernel
theorem dX6_why_30 : decode cX6_why 30 = .ok (.bipush 11, 2) := by decide +kernel
theorem dX6_why_32 : decode cX6_why 32 = .ok (.invokevirtual 216, 3) := by decide +kernel
theorem dX6_why_35 : decode cX6_why 35 = .ok (.if_icmp .lt 6, 3) := by decide +kernel
theorem dX6_why_38 : decode cX6_why 38 = .ok (.ldc 219, 2) := by decide +kernel
theorem dX6_why_40 : decode cX6_why 40 = .ok (.ireturn, 1) := by decide +kernel
theorem dX6_why_41 : decode cX6_why 41 = .ok (.aload_n 0, 1) := by decide +kernel
theorem dX6_why_42 : decode cX6_why 42 = .ok (.getfield 12, 3) := by decide +kernel
theorem dX6_why_45 : decode cX6_why 45 = .ok (.getfield 194, 3) := by decide +kernel
theorem dX6_why_48 : decode cX6_why 48 = .ok (.iload_n 1, 1) := by decide +kernel
theorem dX6_why_49 : decode cX6_why 49 = .ok (.bipush 12, 2) := by decide +kernel
theorem dX6_why_51 : decode cX6_why 51 = .ok (.iload_n 2, 1) := by decide +kernel
theorem dX6_why_52 : decode cX6_why 52 = .ok (.iadd, 1) := by decide +kernel
theorem dX6_why_53 : decode cX6_why 53 = .ok (.invokevirtual 216, 3) := by decide +kernel
theorem dX6_why_56 : decode cX6_why 56 = .ok (.ireturn, 1) := by decide +kernel
theorem dX6_parcels_0 : decode cX6_parcels 0 = .ok (.aload_n 0, 1) := by decide +kernel
theorem dX6_parcels_1 : decode cX6_parcels 1 = .ok (.getfield 12, 3) := by decide +kernel
theorem dX6_parcels_4 : decode cX6_parcels 4 = .ok (.getfield 194, 3) := by decide +kernel
theorem dX6_parcels_7 : decode cX6_parcels 7 = .ok (.getfield 197, 3) := by decide +kernel
theorem dX6_parcels_10 : decode cX6_parcels 10 = .ok (.ireturn, 1) := by decide +kernel
set_option maxRecDepth 20000 in
theorem ggX6_density_X5_has : GoodIn wsX6_density wsX5_has := goodIn_r _ [8, 9, 35, 36, 37, 38] (by decide +kernel) (by decide +kernel)
set_option maxRecDepth 20000 in
theorem gX6_density_X5_has : GoodIn wsX6_density (wsV RX6 210 RX5 yX5_has wsX5_has) := goodIn_app (goodIn_of _ (by decide +kernel)) ggX6_density_X5_has
set_option maxRecDepth 20000 in
theorem ggX6_density_X6_volume : GoodIn wsX6_density wsX6_volume := goodIn_r _ [13, 14, 15, 16, 7, 17, 18, 19, 20, 35, 36, 37, 38] (by decide +kernel) (by decide +kernel)
set_option maxRecDepth 20000 in
theorem gX6_density_X6_volume : GoodIn wsX6_density (va_wsS RX6 221 yX6_volume wsX6_volume) := goodIn_app (goodIn_of _ (by decide +kernel)) ggX6_density_X6_volume
set_option maxRecDepth 20000 in
theorem ggX6_density_X5_cell : GoodIn wsX6_density wsX5_cell := goodIn_r _ [17, 18, 19, 20, 35, 36, 37, 38] (by decide +kernel) (by decide +kernel)
set_option maxRecDepth 20000 in
theorem gX6_density_X5_cell : GoodIn wsX6_density (wsV RX6 216 RX5 yX5_cell wsX5_cell) := goodIn_app (goodIn_of _ (by decide +kernel)) ggX6_density_X5_cell
theorem dX6_density_0 : decode cX6_density 0 = .ok (.aload_n 0, 1) := by decide +kernel
theorem dX6_density_1 : decode cX6_density 1 = .ok (.getfield 12, 3) := by decide +kernel
theorem dX6_density_4 : decode cX6_density 4 = .ok (.getfield 194, 3) := by decide +kernel
theorem dX6_density_7 : decode cX6_density 7 = .ok (.iload_n 1, 1) := by decide +kernel
theorem dX6_density_8 : decode cX6_density 8 = .ok (.invokevirtual 210, 3) := by decide +kernel
theorem dX6_density_11 : decode cX6_density 11 = .ok (.ifCond .ne 6, 3) := by decide +kernel
theorem dX6_density_14 : decode cX6_density 14 = .ok (.ldc 220, 2) := by decide +kernel
theorem dX6_density_16 : decode cX6_density 16 = .ok (.freturn, 1) := by decide +kernel
theorem dX6_density_17 : decode cX6_density 17 = .ok (.aload_n 0, 1) := by decide +kernel
theorem dX6_density_18 : decode cX6_density 18 = .ok (.getfield 12, 3) := by decide +kernel
theorem dX6_density_21 : decode cX6_density 21 = .ok (.getfield 194, 3) := by decide +kernel
theorem dX6_density_24 : decode cX6_density 24 = .ok (.iload_n 1, 1) := by decide +kernel
theorem dX6_density_25 : decode cX6_density 25 = .ok (.invokestatic 221, 3) := by decide +kernel
theorem dX6_density_28 : decode cX6_density 28 = .ok (.istore_n 2, 1) := by decide +kernel
theorem dX6_density_29 : decode cX6_density 29 = .ok (.iload_n 2, 1) := by decide +kernel
theorem dX6_density_30 : decode cX6_density 30 = .ok (.iconst 1, 1) := by decide +kernel
theorem dX6_density_31 : decode cX6_density 31 = .ok (.if_icmp .ge 8, 3) := by decide +kernel
theorem dX6_density_34 : decode cX6_density 34 = .ok (.ldc 220, 2) := by decide +kernel
theorem dX6_density_36 : decode cX6_density 36 = .ok (.goto 19, 3) := by decide +kernel
theorem dX6_density_39 : decode cX6_density 39 = .ok (.aload_n 0, 1) := by decide +kernel
theorem dX6_density_40 : decode cX6_density 40 = .ok (.getfield 12, 3) := by decide +kernel
theorem dX6_density_43 : decode cX6_density 43 = .ok (.getfield 194, 3) := by decide +kernel
theorem dX6_density_46 : decode cX6_density 46 = .ok (.iload_n 1, 1) := by decide +kernel
theorem dX6_density_47 : decode cX6_density 47 = .ok (.iconst 0, 1) := by decide +kernel
theorem dX6_density_48 : decode cX6_density 48 = .ok (.invokevirtual 216, 3) := by decide +kernel
theorem dX6_density_51 : decode cX6_density 51 = .ok (.i2f, 1) := by decide +kernel
theorem dX6_density_52 : decode cX6_density 52 = .ok (.iload_n 2, 1) := by decide +kernel
theorem dX6_density_53 : decode cX6_density 53 = .ok (.i2f, 1) := by decide +kernel
theorem dX6_density_54 : decode cX6_density 54 = .ok (.fdiv, 1) := by decide +kernel
theorem dX6_density_55 : decode cX6_density 55 = .ok (.freturn, 1) := by decide +kernel
set_option maxRecDepth 20000 in
theorem ggX6_dispute_X5_has : GoodIn wsX6_dispute wsX5_has := goodIn_r _ [14, 15, 238, 239, 240, 241] (by decide +kernel) (by decide +kernel)
set_option maxRecDepth 20000 in
theorem gX6_dispute_X5_has : GoodIn wsX6_dispute (wsV RX6 210 RX5 yX5_has wsX5_has) := goodIn_app (goodIn_of _ (by decide +kernel)) ggX6_dispute_X5_has
set_option maxRecDepth 20000 in
theorem ggX6_dispute_X6_isWithin : GoodIn wsX6_dispute wsX6_isWithin := goodIn_r _ [19] (by decide +kernel) (by decide +kernel)
set_option maxRecDepth 20000 in
theorem gX6_dispute_X6_isWithin : GoodIn wsX6_dispute (va_wsS RX6 55 yX6_isWithin wsX6_isWithin) := goodIn_app (goodIn_of _ (by decide +kernel)) ggX6_dispute_X6_isWithin
set_option maxRecDepth 20000 in
theorem ggX6_dispute_X6_openNote : GoodIn wsX6_dispute wsX6_openNote := goodIn_r _ [23, 1, 7, 8, 5, 24, 25, 26, 13, 27, 28, 29, 30, 224, 225, 226, 227, 228, 229, 230, 231, 232, 233, 234, 235, 236, 237, 238, 239, 240, 241] (by decide +kernel) (by decide +kernel)
set_option maxRecDepth 20000 in
theorem gX6_dispute_X6_openNote : GoodIn wsX6_dispute (wsV RX6 213 RX6 yX6_openNote wsX6_openNote) := goodIn_app (goodIn_of _ (by decide +kernel)) ggX6_dispute_X6_openNote
set_option maxRecDepth 20000 in
theorem ggX6_dispute_X5_cell : GoodIn wsX6_dispute wsX5_cell := goodIn_r _ [27, 28, 29, 30, 238, 239, 240, 241] (by decide +kernel) (by decide +kernel)
set_option maxRecDepth 20000 in
theorem gX6_dispute_X5_cell : GoodIn wsX6_dispute (wsV RX6 216 RX5 yX5_cell wsX5_cell) := goodIn_app (goodIn_of _ (by decide +kernel)) ggX6_dispute_X5_cell
set_option maxRecDepth 20000 in
theorem ggX6_dispute_X6_hasBands : GoodIn wsX6_dispute wsX6_hasBands := goodIn_r _ [34, 1, 35, 36, 37, 38, 39, 40, 41, 42, 18, 43, 224, 225, 226, 227, 228, 229, 230, 231, 232, 233, 234, 235, 236, 237, 242, 243, 244, 245] (by decide +kernel) (by decide +kernel)
set_option maxRecDepth 20000 in
theorem gX6_dispute_X6_hasBands : GoodIn wsX6_dispute (wsV RX6 191 RX6 yX6_hasBands wsX6_hasBands) := goodIn_app (goodIn_of _ (by decide +kernel)) ggX6_dispute_X6_hasBands
set_option maxRecDepth 20000 in
theorem ggX6_dispute_X6_remember : GoodIn wsX6_dispute wsX6_remember := goodIn_r _ [47, 48, 49, 1, 50, 51, 52, 53, 54, 55, 56, 57, 58, 59, 60, 61, 62, 63, 64, 65, 66, 67, 68, 69, 70, 71, 72, 73, 74, 75, 76, 77, 78, 79, 80, 81, 82, 83, 84, 39, 85, 41, 42, 18, 43, 86, 37, 38, 40, 87, 88, 89, 90, 91, 92, 93, 94, 95, 96, 97, 98, 99, 100, 101, 102, 103, 104, 105, 106, 107, 108, 109, 110, 111, 112, 113, 114, 115, 116, 117, 118, 119, 120, 121, 122, 13, 123, 15, 29, 30, 124, 125, 126, 127, 128, 129, 130, 131, 132, 224, 225, 226, 227, 228, 229, 230, 231, 232, 233, 234, 235, 236, 237, 246, 247, 248, 249, 250, 251, 252, 253, 254, 255, 256, 242, 243, 244, 245, 257, 238, 239, 240, 241] (by decide +kernel) (by decide +kernel)
set_option maxRecDepth 20000 in
theorem gX6_dispute_X6_remember : GoodIn wsX6_dispute (wsV RX6 69 RX6 yX6_remember wsX6_remember) := goodIn_app (goodIn_of _ (by decide +kernel)) ggX6_dispute_X6_remember
set_option maxRecDepth 20000 in
theorem ggX6_dispute_X6_writeNote : GoodIn wsX6_dispute wsX6_writeNote := goodIn_r _ [136, 1, 7, 137, 2, 138, 139, 140, 13, 141, 15, 28, 142, 143, 144, 145, 29, 146, 25, 26, 27, 30, 147, 148, 149, 150, 151, 152, 153, 154, 54, 155, 156, 56, 157, 158, 126, 159, 57, 58, 160, 161, 18, 162, 24, 163, 79, 80, 65, 81, 67, 164, 165, 166, 167, 168, 169, 170, 171, 172, 173, 174, 175, 176, 177, 39, 178, 179, 180, 181, 182, 183, 86, 37, 38, 40, 41, 42, 43, 87, 88, 89, 90, 91, 92, 93, 94, 95, 96, 97, 98, 99, 100, 184, 185, 186, 187, 105, 106, 107, 108, 109, 188, 189, 190, 117, 191, 119, 192, 193, 194, 195, 196, 197, 198, 199, 200, 201, 202, 203, 204, 205, 206, 207, 208, 209, 210, 211, 212, 213, 214, 215, 216, 217, 218, 219, 220, 221, 222, 223, 224, 225, 226, 227, 228, 229, 230, 231, 232, 233, 234, 235, 236, 237, 238, 239, 240, 241, 246, 247, 248, 249, 250, 251, 252, 253, 254, 255, 256, 242, 243, 244, 245, 257] (by decide +kernel) (by decide +kernel)
set_option maxRecDepth 20000 in
theorem gX6_dispute_X6_writeNote : GoodIn wsX6_dispute (wsV RX6 228 RX6 yX6_writeNote wsX6_writeNote) := goodIn_app (goodIn_of _ (by decide +kernel)) ggX6_dispute_X6_writeNote
theorem dX6_dispute_0 : decode cX6_dispute 0 = .ok (.aload_n 0, 1) := by decide +kernel
theorem dX6_dispute_1 : decode cX6_dispute 1 = .ok (.getfield 12, 3) := by decide +kernel
theorem dX6_dispute_4 : decode cX6_dispute 4 = .ok (.getfield 194, 3) := by decide +kernel
theorem dX6_dispute_7 : decode cX6_dispute 7 = .ok (.iload_n 1, 1) := by decide +kernel
theorem dX6_dispute_8 : decode cX6_dispute 8 = .ok (.invokevirtual 210, 3) := by decide +kernel
theorem dX6_dispute_11 : decode cX6_dispute 11 = .ok (.ifCond .eq 12, 3) := by decide +kernel
theorem dX6_dispute_14 : decode cX6_dispute 14 = .ok (.iload_n 2, 1) := by decide +kernel
theorem dX6_dispute_15 : decode cX6_dispute 15 = .ok (.iconst 0, 1) := by decide +kernel
theorem dX6_dispute_16 : decode cX6_dispute 16 = .ok (.iconst 3, 1) := by decide +kernel
theorem dX6_dispute_17 : decode cX6_dispute 17 = .ok (.invokestatic 55, 3) := by decide +kernel
theorem dX6_dispute_20 : decode cX6_dispute 20 = .ok (.ifCond .ne 6, 3) := by decide +kernel
theorem dX6_dispute_23 : decode cX6_dispute 23 = .ok (.ldc 54, 2) := by decide +kernel
theorem dX6_dispute_25 : decode cX6_dispute 25 = .ok (.ireturn, 1) := by decide +kernel
theorem dX6_dispute_26 : decode cX6_dispute 26 = .ok (.iload_n 3, 1) := by decide +kernel
theorem dX6_dispute_27 : decode cX6_dispute 27 = .ok (.iconst 1, 1) := by decide +kernel
theorem dX6_dispute_28 : decode cX6_dispute 28 = .ok (.iload_n 2, 1) := by decide +kernel
theorem dX6_dispute_29 : decode cX6_dispute 29 = .ok (.ifCond .ne 8, 3) := by decide +kernel
theorem dX6_dispute_32 : decode cX6_dispute 32 = .ok (.ldc 75, 2) := by decide +kernel
theorem dX6_dispute_34 : decode cX6_dispute 34 = .ok (.goto 6, 3) := by decide +kernel
theorem dX6_dispute_37 : decode cX6_dispute 37 = .ok (.sipush 2000, 3) := by decide +kernel
theorem dX6_dispute_40 : decode cX6_dispute 40 = .ok (.invokestatic 55, 3) := by decide +kernel
theorem dX6_dispute_43 : decode cX6_dispute 43 = .ok (.ifCond .ne 6, 3) := by decide +kernel
theorem dX6_dispute_46 : decode cX6_dispute 46 = .ok (.ldc 54, 2) := by decide +kernel
theorem dX6_dispute_48 : decode cX6_dispute 48 = .ok (.ireturn, 1) := by decide +kernel
theorem dX6_dispute_49 : decode cX6_dispute 49 = .ok (.aload_n 0, 1) := by decide +kernel
theorem dX6_dispute_50 : decode cX6_dispute 50 = .ok (.iload_n 1, 1) := by decide +kernel
theorem dX6_dispute_51 : decode cX6_dispute 51 = .ok (.invokevirtual 213, 3) := by decide +kernel
theorem dX6_dispute_54 : decode cX6_dispute 54 = .ok (.ldc 219, 2) := by decide +kernel
theorem dX6_dispute_56 : decode cX6_dispute 56 = .ok (.if_icmp .ne 22, 3) := by decide +kernel
theorem dX6_dispute_59 : decode cX6_dispute 59 = .ok (.aload_n 0, 1) := by decide +kernel
theorem dX6_dispute_60 : decode cX6_dispute 60 = .ok (.aload_n 0, 1) := by decide +kernel
theorem dX6_dispute_61 : decode cX6_dispute 61 = .ok (.getfield 12, 3) := by decide +kernel
theorem dX6_dispute_64 : decode cX6_dispute 64 = .ok (.getfield 194, 3) := by decide +kernel
theorem dX6_dispute_67 : decode cX6_dispute 67 = .ok (.iload_n 1, 1) := by decide +kernel
theorem dX6_dispute_68 : decode cX6_dispute 68 = .ok (.iconst 4, 1) := by decide +kernel
theorem dX6_dispute_69 : decode cX6_dispute 69 = .ok (.invokevirtual 216, 3) := by decide +kernel
theorem dX6_dispute_72 : decode cX6_dispute 72 = .ok (.invokevirtual 191, 3) := by decide +kernel
theorem dX6_dispute_75 : decode cX6_dispute 75 = .ok (.ifCond .ne 6, 3) := by decide +kernel
theorem dX6_dispute_78 : decode cX6_dispute 78 = .ok (.ldc 87, 2) := by decide +kernel
theorem dX6_dispute_80 : decode cX6_dispute 80 = .ok (.ireturn, 1) := by decide +kernel
theorem dX6_dispute_81 : decode cX6_dispute 81 = .ok (.aload_n 0, 1) := by decide +kernel
theorem dX6_dispute_82 : decode cX6_dispute 82 = .ok (.getfield 12, 3) := by decide +kernel
theorem dX6_dispute_85 : decode cX6_dispute 85 = .ok (.getfield 225, 3) := by decide +kernel
theorem dX6_dispute_88 : decode cX6_dispute 88 = .ok (.getfield 197, 3) := by decide +kernel
theorem dX6_dispute_91 : decode cX6_dispute 91 = .ok (.bipush 20, 2) := by decide +kernel
theorem dX6_dispute_93 : decode cX6_dispute 93 = .ok (.if_icmp .lt 6, 3) := by decide +kernel
theorem dX6_dispute_96 : decode cX6_dispute 96 = .ok (.ldc 140, 2) := by decide +kernel
theorem dX6_dispute_98 : decode cX6_dispute 98 = .ok (.ireturn, 1) := by decide +kernel
theorem dX6_dispute_99 : decode cX6_dispute 99 = .ok (.aload_n 0, 1) := by decide +kernel
theorem dX6_dispute_100 : decode cX6_dispute 100 = .ok (.invokevirtual 69, 3) := by decide +kernel
theorem dX6_dispute_103 : decode cX6_dispute 103 = .ok (.aload_n 0, 1) := by decide +kernel
theorem dX6_dispute_104 : decode cX6_dispute 104 = .ok (.iload_n 1, 1) := by decide +kernel
theorem dX6_dispute_105 : decode cX6_dispute 105 = .ok (.iload_n 2, 1) := by decide +kernel
theorem dX6_dispute_106 : decode cX6_dispute 106 = .ok (.iload_n 3, 1) := by decide +kernel
theorem dX6_dispute_107 : decode cX6_dispute 107 = .ok (.invokevirtual 228, 3) := by decide +kernel
theorem dX6_dispute_110 : decode cX6_dispute 110 = .ok (.ireturn, 1) := by decide +kernel
set_option maxRecDepth 20000 in
theorem ggX6_settle_X5_has : GoodIn wsX6_settle wsX5_has := goodIn_r _ [9, 10, 145, 146, 147, 148] (by decide +kernel) (by decide +kernel)
set_option maxRecDepth 20000 in
theorem gX6_settle_X5_has : GoodIn wsX6_settle (wsV RX6 210 RX5 yX5_has wsX5_has) := goodIn_app (goodIn_of _ (by decide +kernel)) ggX6_settle_X5_has
set_option maxRecDepth 20000 in
theorem ggX6_settle_X5_cell : GoodIn wsX6_settle wsX5_cell := goodIn_r _ [14, 15, 16, 17, 145, 146, 147, 148] (by decide +kernel) (by decide +kernel)
set_option maxRecDepth 20000 in
theorem gX6_settle_X5_cell : GoodIn wsX6_settle (wsV RX6 216 RX5 yX5_cell wsX5_cell) := goodIn_app (goodIn_of _ (by decide +kernel)) ggX6_settle_X5_cell
set_option maxRecDepth 20000 in
theorem ggX6_settle_X6_remember : GoodIn wsX6_settle wsX6_remember := goodIn_r _ [22, 23, 24, 1, 25, 26, 27, 28, 29, 30, 31, 32, 33, 34, 35, 36, 37, 38, 39, 40, 41, 42, 43, 44, 45, 46, 47, 48, 49, 50, 51, 52, 53, 54, 55, 56, 57, 58, 59, 60, 61, 62, 63, 21, 64, 65, 66, 67, 68, 69, 70, 71, 72, 73, 74, 75, 76, 77, 78, 79, 80, 81, 82, 83, 84, 85, 86, 87, 88, 89, 90, 91, 92, 93, 94, 95, 96, 97, 98, 99, 100, 101, 102, 103, 104, 8, 105, 10, 16, 17, 106, 107, 108, 109, 110, 111, 112, 113, 114, 131, 132, 133, 134, 135, 136, 137, 138, 139, 140, 141, 142, 143, 144, 149, 150, 151, 152, 153, 154, 155, 156, 157, 158, 159, 160, 161, 162, 163, 164, 145, 146, 147, 148] (by decide +kernel) (by decide +kernel)
set_option maxRecDepth 20000 in
theorem gX6_settle_X6_remember : GoodIn wsX6_settle (wsV RX6 69 RX6 yX6_remember wsX6_remember) := goodIn_app (goodIn_of _ (by decide +kernel)) ggX6_settle_X6_remember
set_option maxRecDepth 20000 in
theorem ggX6_settle_X5_put : GoodIn wsX6_settle wsX5_put := goodIn_r _ [118, 15, 16, 17, 145, 146, 147, 148] (by decide +kernel) (by decide +kernel)
set_option maxRecDepth 20000 in
theorem gX6_settle_X5_put : GoodIn wsX6_settle (wsV RX6 232 RX5 yX5_put wsX5_put) := goodIn_app (goodIn_of _ (by decide +kernel)) ggX6_settle_X5_put
set_option maxRecDepth 20000 in
theorem ggX6_settle_X6_acceptNote : GoodIn wsX6_settle wsX6_acceptNote := goodIn_r _ [122, 1, 2, 123, 124, 11, 12, 13, 8, 14, 15, 16, 17, 125, 126, 127, 128, 129, 130, 116, 117, 118, 115, 131, 132, 133, 134, 135, 136, 137, 138, 139, 140, 141, 142, 143, 144, 145, 146, 147, 148] (by decide +kernel) (by decide +kernel)
set_option maxRecDepth 20000 in
theorem gX6_settle_X6_acceptNote : GoodIn wsX6_settle (wsV RX6 236 RX6 yX6_acceptNote wsX6_acceptNote) := goodIn_app (goodIn_of _ (by decide +kernel)) ggX6_settle_X6_acceptNote
theorem dX6_settle_0 : decode cX6_settle 0 = .ok (.aload_n 0, 1) := by decide +kernel
theorem dX6_settle_1 : decode cX6_settle 1 = .ok (.getfield 12, 3) := by decide +kernel
theorem dX6_settle_4 : decode cX6_settle 4 = .ok (.getfield 225, 3) := by decide +kernel
theorem dX6_settle_7 : decode cX6_settle 7 = .ok (.iload_n 1, 1) := by decide +kernel
theorem dX6_settle_8 : decode cX6_settle 8 = .ok (.invokevirtual 210, 3) := by decide +kernel
theorem dX6_settle_11 : decode cX6_settle 11 = .ok (.ifCond .ne 6, 3) := by decide +kernel
theorem dX6_settle_14 : decode cX6_settle 14 = .ok (.ldc 54, 2) := by decide +kernel
theorem dX6_settle_16 : decode cX6_settle 16 = .ok (.ireturn, 1) := by decide +kernel
theorem dX6_settle_17 : decode cX6_settle 17 = .ok (.aload_n 0, 1) := by decide +kernel
theorem dX6_settle_18 : decode cX6_settle 18 = .ok (.getfield 12, 3) := by decide +kernel
theorem dX6_settle_21 : decode cX6_settle 21 = .ok (.getfield 225, 3) := by decide +kernel
theorem dX6_settle_24 : decode cX6_settle 24 = .ok (.iload_n 1, 1) := by decide +kernel
theorem dX6_settle_25 : decode cX6_settle 25 = .ok (.iconst 4, 1) := by decide +kernel
theorem dX6_settle_26 : decode cX6_settle 26 = .ok (.invokevirtual 216, 3) := by decide +kernel
theorem dX6_settle_29 : decode cX6_settle 29 = .ok (.ifCond .eq 6, 3) := by decide +kernel
theorem dX6_settle_32 : decode cX6_settle 32 = .ok (.ldc 87, 2) := by decide +kernel
theorem dX6_settle_34 : decode cX6_settle 34 = .ok (.ireturn, 1) := by decide +kernel
theorem dX6_settle_35 : decode cX6_settle 35 = .ok (.aload_n 0, 1) := by decide +kernel
theorem dX6_settle_36 : decode cX6_settle 36 = .ok (.invokevirtual 69, 3) := by decide +kernel
theorem dX6_settle_39 : decode cX6_settle 39 = .ok (.iload_n 2, 1) := by decide +kernel
theorem dX6_settle_40 : decode cX6_settle 40 = .ok (.ifCond .ne 18, 3) := by decide +kernel
theorem dX6_settle_43 : decode cX6_settle 43 = .ok (.aload_n 0, 1) := by decide +kernel
theorem dX6_settle_44 : decode cX6_settle 44 = .ok (.getfield 12, 3) := by decide +kernel
theorem dX6_settle_47 : decode cX6_settle 47 = .ok (.getfield 225, 3) := by decide +kernel
theorem dX6_settle_50 : decode cX6_settle 50 = .ok (.iload_n 1, 1) := by decide +kernel
theorem dX6_settle_51 : decode cX6_settle 51 = .ok (.iconst 4, 1) := by decide +kernel
theorem dX6_settle_52 : decode cX6_settle 52 = .ok (.iconst 2, 1) := by decide +kernel
theorem dX6_settle_53 : decode cX6_settle 53 = .ok (.invokevirtual 232, 3) := by decide +kernel
theorem dX6_settle_56 : decode cX6_settle 56 = .ok (.iconst 0, 1) := by decide +kernel
theorem dX6_settle_57 : decode cX6_settle 57 = .ok (.ireturn, 1) := by decide +kernel
theorem dX6_settle_58 : decode cX6_settle 58 = .ok (.aload_n 0, 1) := by decide +kernel
theorem dX6_settle_59 : decode cX6_settle 59 = .ok (.iload_n 1, 1) := by decide +kernel
theorem dX6_settle_60 : decode cX6_settle 60 = .ok (.invokevirtual 236, 3) := by decide +kernel
theorem dX6_settle_63 : decode cX6_settle 63 = .ok (.ireturn, 1) := by decide +kernel
set_option maxRecDepth 20000 in
theorem ggX6_note_X5_has : GoodIn wsX6_note wsX5_has := goodIn_r _ [8, 9, 35, 36, 37, 38] (by decide +kernel) (by decide +kernel)
set_option maxRecDepth 20000 in
theorem gX6_note_X5_has : GoodIn wsX6_note (wsV RX6 210 RX5 yX5_has wsX5_has) := goodIn_app (goodIn_of _ (by decide +kernel)) ggX6_note_X5_has
set_option maxRecDepth 20000 in
theorem ggX6_note_X6_isWithin : GoodIn wsX6_note wsX6_isWithin := goodIn_r _ [13] (by decide +kernel) (by decide +kernel)
set_option maxRecDepth 20000 in
theorem gX6_note_X6_isWithin : GoodIn wsX6_note (va_wsS RX6 55 yX6_isWithin wsX6_isWithin) := goodIn_app (goodIn_of _ (by decide +kernel)) ggX6_note_X6_isWithin
set_option maxRecDepth 20000 in
theorem ggX6_note_X5_cell : GoodIn wsX6_note wsX5_cell := goodIn_r _ [17, 18, 19, 20, 35, 36, 37, 38] (by decide +kernel) (by decide +kernel)
set_option maxRecDepth 20000 in
theorem gX6_note_X5_cell : GoodIn wsX6_note (wsV RX6 216 RX5 yX5_cell wsX5_cell) := goodIn_app (goodIn_of _ (by decide +kernel)) ggX6_note_X5_cell
theorem dX6_note_0 : decode cX6_note 0 = .ok (.aload_n 0, 1) := by decide +kernel
theorem dX6_note_1 : decode cX6_note 1 = .ok (.getfield 12, 3) := by decide +kernel
theorem dX6_note_4 : decode cX6_note 4 = .ok (.getfield 225, 3) := by decide +kernel
theorem dX6_note_7 : decode cX6_note 7 = .ok (.iload_n 1, 1) := by decide +kernel
theorem dX6_note_8 : decode cX6_note 8 = .ok (.invokevirtual 210, 3) := by decide +kernel
theorem dX6_note_11 : decode cX6_note 11 = .ok (.ifCond .eq 12, 3) := by decide +kernel
theorem dX6_note_14 : decode cX6_note 14 = .ok (.iload_n 2, 1) := by decide +kernel
theorem dX6_note_15 : decode cX6_note 15 = .ok (.iconst 0, 1) := by decide +kernel
theorem dX6_note_16 : decode cX6_note 16 = .ok (.iconst 5, 1) := by decide +kernel
theorem dX6_note_17 : decode cX6_note 17 = .ok (.invokestatic 55, 3) := by decide +kernel
theorem dX6_note_20 : decode cX6_note 20 = .ok (.ifCond .ne 6, 3) := by decide +kernel
theorem dX6_note_23 : decode cX6_note 23 = .ok (.ldc 54, 2) := by decide +kernel
theorem dX6_note_25 : decode cX6_note 25 = .ok (.ireturn, 1) := by decide +kernel
theorem dX6_note_26 : decode cX6_note 26 = .ok (.aload_n 0, 1) := by decide +kernel
theorem dX6_note_27 : decode cX6_note 27 = .ok (.getfield 12, 3) := by decide +kernel
theorem dX6_note_30 : decode cX6_note 30 = .ok (.getfield 225, 3) := by decide +kernel
theorem dX6_note_33 : decode cX6_note 33 = .ok (.iload_n 1, 1) := by decide +kernel
theorem dX6_note_34 : decode cX6_note 34 = .ok (.iload_n 2, 1) := by decide +kernel
theorem dX6_note_35 : decode cX6_note 35 = .ok (.invokevirtual 216, 3) := by decide +kernel
theorem dX6_note_38 : decode cX6_note 38 = .ok (.ireturn, 1) := by decide +kernel
theorem dX6_notes_0 : decode cX6_notes 0 = .ok (.aload_n 0, 1) := by decide +kernel
theorem dX6_notes_1 : decode cX6_notes 1 = .ok (.getfield 12, 3) := by decide +kernel
theorem dX6_notes_4 : decode cX6_notes 4 = .ok (.getfield 225, 3) := by decide +kernel
theorem dX6_notes_7 : decode cX6_notes 7 = .ok (.getfield 197, 3) := by decide +kernel
theorem dX6_notes_10 : decode cX6_notes 10 = .ok (.ireturn, 1) := by decide +kernel
set_option maxRecDepth 20000 in
theorem ggX6_sum_X5_columnSum : GoodIn wsX6_sum wsX5_columnSum := goodIn_r _ [9, 10, 11, 12, 13, 8, 14, 15, 16, 17, 36, 37, 38, 39] (by decide +kernel) (by decide +kernel)
set_option maxRecDepth 20000 in
theorem gX6_sum_X5_columnSum : GoodIn wsX6_sum (wsV RX6 239 RX5 yX5_columnSum wsX5_columnSum) := goodIn_app (goodIn_of _ (by decide +kernel)) ggX6_sum_X5_columnSum
set_option maxRecDepth 20000 in
theorem ggX6_sum_X5_rowsWith : GoodIn wsX6_sum wsX5_rowsWith := goodIn_r _ [21, 10, 11, 12, 13, 8, 14, 15, 16, 17, 36, 37, 38, 39] (by decide +kernel) (by decide +kernel)
set_option maxRecDepth 20000 in
theorem gX6_sum_X5_rowsWith : GoodIn wsX6_sum (wsV RX6 243 RX5 yX5_rowsWith wsX5_rowsWith) := goodIn_app (goodIn_of _ (by decide +kernel)) ggX6_sum_X5_rowsWith
theorem dX6_sum_0 : decode cX6_sum 0 = .ok (.iload_n 1, 1) := by decide +kernel
theorem dX6_sum_1 : decode cX6_sum 1 = .ok (.tableswitch 100 0 4 #[35, 48, 60, 72, 85], 35) := by decide +kernel
theorem dX6_sum_36 : decode cX6_sum 36 = .ok (.aload_n 0, 1) := by decide +kernel
theorem dX6_sum_37 : decode cX6_sum 37 = .ok (.getfield 12, 3) := by decide +kernel
theorem dX6_sum_40 : decode cX6_sum 40 = .ok (.getfield 194, 3) := by decide +kernel
theorem dX6_sum_43 : decode cX6_sum 43 = .ok (.bipush 8, 2) := by decide +kernel
theorem dX6_sum_45 : decode cX6_sum 45 = .ok (.invokevirtual 239, 3) := by decide +kernel
theorem dX6_sum_48 : decode cX6_sum 48 = .ok (.lreturn, 1) := by decide +kernel
theorem dX6_sum_49 : decode cX6_sum 49 = .ok (.aload_n 0, 1) := by decide +kernel
theorem dX6_sum_50 : decode cX6_sum 50 = .ok (.getfield 12, 3) := by decide +kernel
theorem dX6_sum_53 : decode cX6_sum 53 = .ok (.getfield 225, 3) := by decide +kernel
theorem dX6_sum_56 : decode cX6_sum 56 = .ok (.iconst 5, 1) := by decide +kernel
theorem dX6_sum_57 : decode cX6_sum 57 = .ok (.invokevirtual 239, 3) := by decide +kernel
theorem dX6_sum_60 : decode cX6_sum 60 = .ok (.lreturn, 1) := by decide +kernel
theorem dX6_sum_61 : decode cX6_sum 61 = .ok (.aload_n 0, 1) := by decide +kernel
theorem dX6_sum_62 : decode cX6_sum 62 = .ok (.getfield 12, 3) := by decide +kernel
theorem dX6_sum_65 : decode cX6_sum 65 = .ok (.getfield 194, 3) := by decide +kernel
theorem dX6_sum_68 : decode cX6_sum 68 = .ok (.iconst 0, 1) := by decide +kernel
theorem dX6_sum_69 : decode cX6_sum 69 = .ok (.invokevirtual 239, 3) := by decide +kernel
theorem dX6_sum_72 : decode cX6_sum 72 = .ok (.lreturn, 1) := by decide +kernel
theorem dX6_sum_73 : decode cX6_sum 73 = .ok (.aload_n 0, 1) := by decide +kernel
theorem dX6_sum_74 : decode cX6_sum 74 = .ok (.getfield 12, 3) := by decide +kernel
theorem dX6_sum_77 : decode cX6_sum 77 = .ok (.getfield 194, 3) := by decide +kernel
theorem dX6_sum_80 : decode cX6_sum 80 = .ok (.bipush 6, 2) := by decide +kernel
theorem dX6_sum_82 : decode cX6_sum 82 = .ok (.invokevirtual 239, 3) := by decide +kernel
theorem dX6_sum_85 : decode cX6_sum 85 = .ok (.lreturn, 1) := by decide +kernel
theorem dX6_sum_86 : decode cX6_sum 86 = .ok (.aload_n 0, 1) := by decide +kernel
theorem dX6_sum_87 : decode cX6_sum 87 = .ok (.getfield 12, 3) := by decide +kernel
theorem dX6_sum_90 : decode cX6_sum 90 = .ok (.getfield 194, 3) := by decide +kernel
theorem dX6_sum_93 : decode cX6_sum 93 = .ok (.bipush 12, 2) := by decide +kernel
theorem dX6_sum_95 : decode cX6_sum 95 = .ok (.iconst 2, 1) := by decide +kernel
theorem dX6_sum_96 : decode cX6_sum 96 = .ok (.invokevirtual 243, 3) := by decide +kernel
theorem dX6_sum_99 : decode cX6_sum 99 = .ok (.i2l, 1) := by decide +kernel
theorem dX6_sum_100 : decode cX6_sum 100 = .ok (.lreturn, 1) := by decide +kernel
theorem dX6_sum_101 : decode cX6_sum 101 = .ok (.ldc2_w 246, 3) := by decide +kernel
theorem dX6_sum_104 : decode cX6_sum 104 = .ok (.lreturn, 1) := by decide +kernel
set_option maxRecDepth 20000 in
theorem ggX6_lighter_X5_has : GoodIn wsX6_lighter wsX5_has := goodIn_r _ [12, 13, 185, 186, 187, 188] (by decide +kernel) (by decide +kernel)
set_option maxRecDepth 20000 in
theorem gX6_lighter_X5_has : GoodIn wsX6_lighter (wsV RX6 210 RX5 yX5_has wsX5_has) := goodIn_app (goodIn_of _ (by decide +kernel)) ggX6_lighter_X5_has
set_option maxRecDepth 20000 in
theorem ggX6_lighter_X5_cell : GoodIn wsX6_lighter wsX5_cell := goodIn_r _ [17, 18, 19, 20, 185, 186, 187, 188] (by decide +kernel) (by decide +kernel)
set_option maxRecDepth 20000 in
theorem gX6_lighter_X5_cell : GoodIn wsX6_lighter (wsV RX6 216 RX5 yX5_cell wsX5_cell) := goodIn_app (goodIn_of _ (by decide +kernel)) ggX6_lighter_X5_cell
set_option maxRecDepth 20000 in
theorem ggX6_lighter_X6_hasBands : GoodIn wsX6_lighter wsX6_hasBands := goodIn_r _ [25, 1, 26, 27, 28, 29, 30, 31, 32, 33, 24, 34, 171, 172, 173, 174, 175, 176, 177, 178, 179, 180, 181, 182, 183, 184, 189, 190, 191, 192] (by decide +kernel) (by decide +kernel)
set_option maxRecDepth 20000 in
theorem gX6_lighter_X6_hasBands : GoodIn wsX6_lighter (wsV RX6 191 RX6 yX6_hasBands wsX6_hasBands) := goodIn_app (goodIn_of _ (by decide +kernel)) ggX6_lighter_X6_hasBands
set_option maxRecDepth 20000 in
theorem ggX6_lighter_X5_copyRow : GoodIn wsX6_lighter wsX5_copyRow := goodIn_r _ [38, 19, 39, 15, 16, 11, 17, 18, 20, 40, 41, 42, 43, 185, 186, 187, 188] (by decide +kernel) (by decide +kernel)
set_option maxRecDepth 20000 in
theorem gX6_lighter_X5_copyRow : GoodIn wsX6_lighter (wsV RX6 248 RX5 yX5_copyRow wsX5_copyRow) := goodIn_app (goodIn_of _ (by decide +kernel)) ggX6_lighter_X5_copyRow
set_option maxRecDepth 20000 in
theorem ggX6_lighter_X6_trialCharge : GoodIn wsX6_lighter wsX6_trialCharge := goodIn_r _ [47, 1, 5, 48, 49, 50, 51, 52, 53, 54, 55, 56, 57, 58, 59, 60, 61, 15, 16, 11, 17, 18, 19, 20, 62, 24, 63, 14, 64, 65, 66, 67, 68, 69, 70, 71, 72, 41, 42, 43, 73, 74, 75, 76, 77, 78, 79, 80, 81, 82, 83, 84, 30, 85, 86, 87, 88, 89, 90, 91, 28, 29, 31, 32, 33, 34, 92, 93, 94, 95, 96, 97, 98, 99, 100, 101, 102, 103, 104, 105, 106, 107, 108, 109, 110, 111, 112, 113, 114, 115, 116, 117, 118, 119, 120, 121, 122, 123, 124, 125, 126, 127, 128, 129, 130, 131, 132, 133, 134, 135, 136, 137, 138, 139, 140, 141, 142, 143, 144, 145, 146, 147, 148, 149, 150, 151, 152, 171, 172, 173, 174, 175, 176, 177, 178, 179, 180, 181, 182, 183, 184, 185, 186, 187, 188, 193, 194, 195, 196, 197, 198, 199, 200, 201, 202, 203, 189, 190, 191, 192, 204] (by decide +kernel) (by decide +kernel)
set_option maxRecDepth 20000 in
theorem gX6_lighter_X6_trialCharge : GoodIn wsX6_lighter (wsV RX6 207 RX6 yX6_trialCharge wsX6_trialCharge) := goodIn_app (goodIn_of _ (by decide +kernel)) ggX6_lighter_X6_trialCharge
set_option maxRecDepth 20000 in
theorem ggX6_lighter_X4_nextLower : GoodIn wsX6_lighter wsX4_nextLower := goodIn_r _ [156, 54, 59, 60, 55, 56, 57, 58, 61, 15, 16, 11, 17, 18, 19, 20, 64, 65, 66, 67, 68, 69, 157, 158, 159, 30, 160, 86, 87, 88, 89, 90, 91, 28, 29, 31, 32, 33, 24, 34, 92, 93, 94, 95, 96, 97, 98, 99, 100, 106, 107, 108, 109, 70, 71, 161, 162, 163, 164, 165, 118, 166, 120, 121, 167, 122, 168, 169, 170, 136, 137, 138, 139, 140, 179, 180, 181, 182, 183, 184, 185, 186, 187, 188, 193, 194, 195, 196, 197, 198, 199, 200, 201, 202, 203, 189, 190, 191, 192, 204] (by decide +kernel) (by decide +kernel)
set_option maxRecDepth 20000 in
theorem gX6_lighter_X4_nextLower : GoodIn wsX6_lighter (wsV RX6 252 RX4 yX4_nextLower wsX4_nextLower) := goodIn_app (goodIn_of _ (by decide +kernel)) ggX6_lighter_X4_nextLower
set_option maxRecDepth 20000 in
theorem ggX6_lighter_X5_put : GoodIn wsX6_lighter wsX5_put := goodIn_r _ [43, 18, 19, 20, 185, 186, 187, 188] (by decide +kernel) (by decide +kernel)
set_option maxRecDepth 20000 in
theorem gX6_lighter_X5_put : GoodIn wsX6_lighter (wsV RX6 232 RX5 yX5_put wsX5_put) := goodIn_app (goodIn_of _ (by decide +kernel)) ggX6_lighter_X5_put
theorem dX6_lighter_0 : decode cX6_lighter 0 = .ok (.aload_n 0, 1) := by decide +kernel
theorem dX6_lighter_1 : decode cX6_lighter 1 = .ok (.getfield 12, 3) := by decide +kernel
theorem dX6_lighter_4 : decode cX6_lighter 4 = .ok (.getfield 194, 3) := by decide +kernel
theorem dX6_lighter_7 : decode cX6_lighter 7 = .ok (.iload_n 1, 1) := by decide +kernel
theorem dX6_lighter_8 : decode cX6_lighter 8 = .ok (.invokevirtual 210, 3) := by decide +kernel
theorem dX6_lighter_11 : decode cX6_lighter 11 = .ok (.ifCond .ne 6, 3) := by decide +kernel
theorem dX6_lighter_14 : decode cX6_lighter 14 = .ok (.ldc 54, 2) := by decide +kernel
theorem dX6_lighter_16 : decode cX6_lighter 16 = .ok (.ireturn, 1) := by decide +kernel
theorem dX6_lighter_17 : decode cX6_lighter 17 = .ok (.aload_n 0, 1) := by decide +kernel
theorem dX6_lighter_18 : decode cX6_lighter 18 = .ok (.aload_n 0, 1) := by decide +kernel
theorem dX6_lighter_19 : decode cX6_lighter 19 = .ok (.getfield 12, 3) := by decide +kernel
theorem dX6_lighter_22 : decode cX6_lighter 22 = .ok (.getfield 194, 3) := by decide +kernel
theorem dX6_lighter_25 : decode cX6_lighter 25 = .ok (.iload_n 1, 1) := by decide +kernel
theorem dX6_lighter_26 : decode cX6_lighter 26 = .ok (.iconst 4, 1) := by decide +kernel
theorem dX6_lighter_27 : decode cX6_lighter 27 = .ok (.invokevirtual 216, 3) := by decide +kernel
theorem dX6_lighter_30 : decode cX6_lighter 30 = .ok (.invokevirtual 191, 3) := by decide +kernel
theorem dX6_lighter_33 : decode cX6_lighter 33 = .ok (.ifCond .ne 6, 3) := by decide +kernel
theorem dX6_lighter_36 : decode cX6_lighter 36 = .ok (.ldc 87, 2) := by decide +kernel
theorem dX6_lighter_38 : decode cX6_lighter 38 = .ok (.ireturn, 1) := by decide +kernel
theorem dX6_lighter_39 : decode cX6_lighter 39 = .ok (.aload_n 0, 1) := by decide +kernel
theorem dX6_lighter_40 : decode cX6_lighter 40 = .ok (.getfield 36, 3) := by decide +kernel
theorem dX6_lighter_43 : decode cX6_lighter 43 = .ok (.iconst 0, 1) := by decide +kernel
theorem dX6_lighter_44 : decode cX6_lighter 44 = .ok (.aload_n 0, 1) := by decide +kernel
theorem dX6_lighter_45 : decode cX6_lighter 45 = .ok (.getfield 12, 3) := by decide +kernel
theorem dX6_lighter_48 : decode cX6_lighter 48 = .ok (.getfield 194, 3) := by decide +kernel
theorem dX6_lighter_51 : decode cX6_lighter 51 = .ok (.iload_n 1, 1) := by decide +kernel
theorem dX6_lighter_52 : decode cX6_lighter 52 = .ok (.invokevirtual 248, 3) := by decide +kernel
theorem dX6_lighter_55 : decode cX6_lighter 55 = .ok (.aload_n 0, 1) := by decide +kernel
theorem dX6_lighter_56 : decode cX6_lighter 56 = .ok (.getfield 36, 3) := by decide +kernel
theorem dX6_lighter_59 : decode cX6_lighter 59 = .ok (.iconst 0, 1) := by decide +kernel
theorem dX6_lighter_60 : decode cX6_lighter 60 = .ok (.iconst 0, 1) := by decide +kernel
theorem dX6_lighter_61 : decode cX6_lighter 61 = .ok (.invokevirtual 216, 3) := by decide +kernel
theorem dX6_lighter_64 : decode cX6_lighter 64 = .ok (.istore_n 2, 1) := by decide +kernel
theorem dX6_lighter_65 : decode cX6_lighter 65 = .ok (.aload_n 0, 1) := by decide +kernel
theorem dX6_lighter_66 : decode cX6_lighter 66 = .ok (.invokevirtual 207, 3) := by decide +kernel
theorem dX6_lighter_69 : decode cX6_lighter 69 = .ok (.istore_n 3, 1) := by decide +kernel
theorem dX6_lighter_70 : decode cX6_lighter 70 = .ok (.iconst 0, 1) := by decide +kernel
theorem dX6_lighter_71 : decode cX6_lighter 71 = .ok (.istore 4, 2) := by decide +kernel
theorem dX6_lighter_73 : decode cX6_lighter 73 = .ok (.iload 4, 2) := by decide +kernel
theorem dX6_lighter_75 : decode cX6_lighter 75 = .ok (.ldc 75, 2) := by decide +kernel
theorem dX6_lighter_77 : decode cX6_lighter 77 = .ok (.if_icmp .ge 56, 3) := by decide +kernel
theorem dX6_lighter_80 : decode cX6_lighter 80 = .ok (.aload_n 0, 1) := by decide +kernel
theorem dX6_lighter_81 : decode cX6_lighter 81 = .ok (.getfield 12, 3) := by decide +kernel
theorem dX6_lighter_84 : decode cX6_lighter 84 = .ok (.aload_n 0, 1) := by decide +kernel
theorem dX6_lighter_85 : decode cX6_lighter 85 = .ok (.getfield 36, 3) := by decide +kernel
theorem dX6_lighter_88 : decode cX6_lighter 88 = .ok (.iconst 0, 1) := by decide +kernel
theorem dX6_lighter_89 : decode cX6_lighter 89 = .ok (.invokevirtual 252, 3) := by decide +kernel
theorem dX6_lighter_92 : decode cX6_lighter 92 = .ok (.istore 5, 2) := by decide +kernel
theorem dX6_lighter_94 : decode cX6_lighter 94 = .ok (.iload 5, 2) := by decide +kernel
theorem dX6_lighter_96 : decode cX6_lighter 96 = .ok (.iconst 1, 1) := by decide +kernel
theorem dX6_lighter_97 : decode cX6_lighter 97 = .ok (.if_icmp .ge 6, 3) := by decide +kernel
theorem dX6_lighter_100 : decode cX6_lighter 100 = .ok (.ldc 219, 2) := by decide +kernel
theorem dX6_lighter_102 : decode cX6_lighter 102 = .ok (.ireturn, 1) := by decide +kernel
theorem dX6_lighter_103 : decode cX6_lighter 103 = .ok (.aload_n 0, 1) := by decide +kernel
theorem dX6_lighter_104 : decode cX6_lighter 104 = .ok (.getfield 36, 3) := by decide +kernel
theorem dX6_lighter_107 : decode cX6_lighter 107 = .ok (.iconst 0, 1) := by decide +kernel
theorem dX6_lighter_108 : decode cX6_lighter 108 = .ok (.iconst 0, 1) := by decide +kernel
theorem dX6_lighter_109 : decode cX6_lighter 109 = .ok (.iload 5, 2) := by decide +kernel
theorem dX6_lighter_111 : decode cX6_lighter 111 = .ok (.invokevirtual 232, 3) := by decide +kernel
theorem dX6_lighter_114 : decode cX6_lighter 114 = .ok (.aload_n 0, 1) := by decide +kernel
theorem dX6_lighter_115 : decode cX6_lighter 115 = .ok (.invokevirtual 207, 3) := by decide +kernel
theorem dX6_lighter_118 : decode cX6_lighter 118 = .ok (.iload_n 3, 1) := by decide +kernel
theorem dX6_lighter_119 : decode cX6_lighter 119 = .ok (.if_icmp .ge 8, 3) := by decide +kernel
theorem dX6_lighter_122 : decode cX6_lighter 122 = .ok (.iload_n 2, 1) := by decide +kernel
theorem dX6_lighter_123 : decode cX6_lighter 123 = .ok (.iload 5, 2) := by decide +kernel
theorem dX6_lighter_125 : decode cX6_lighter 125 = .ok (.isub, 1) := by decide +kernel
theorem dX6_lighter_126 : decode cX6_lighter 126 = .ok (.ireturn, 1) := by decide +kernel
theorem dX6_lighter_127 : decode cX6_lighter 127 = .ok (.iinc 4 1, 3) := by decide +kernel
theorem dX6_lighter_130 : decode cX6_lighter 130 = .ok (.goto (-57), 3) := by decide +kernel
theorem dX6_lighter_133 : decode cX6_lighter 133 = .ok (.ldc 219, 2) := by decide +kernel
theorem dX6_lighter_135 : decode cX6_lighter 135 = .ok (.ireturn, 1) := by decide +kernel
set_option maxRecDepth 20000 in
theorem ggX6_shorter_X5_has : GoodIn wsX6_shorter wsX5_has := goodIn_r _ [11, 12, 169, 170, 171, 172] (by decide +kernel) (by decide +kernel)
set_option maxRecDepth 20000 in
theorem gX6_shorter_X5_has : GoodIn wsX6_shorter (wsV RX6 210 RX5 yX5_has wsX5_has) := goodIn_app (goodIn_of _ (by decide +kernel)) ggX6_shorter_X5_has
set_option maxRecDepth 20000 in
theorem ggX6_shorter_X6_isWithin : GoodIn wsX6_shorter wsX6_isWithin := goodIn_r _ [16] (by decide +kernel) (by decide +kernel)
set_option maxRecDepth 20000 in
theorem gX6_shorter_X6_isWithin : GoodIn wsX6_shorter (va_wsS RX6 55 yX6_isWithin wsX6_isWithin) := goodIn_app (goodIn_of _ (by decide +kernel)) ggX6_shorter_X6_isWithin
set_option maxRecDepth 20000 in
theorem ggX6_shorter_X5_cell : GoodIn wsX6_shorter wsX5_cell := goodIn_r _ [20, 21, 22, 23, 169, 170, 171, 172] (by decide +kernel) (by decide +kernel)
set_option maxRecDepth 20000 in
theorem gX6_shorter_X5_cell : GoodIn wsX6_shorter (wsV RX6 216 RX5 yX5_cell wsX5_cell) := goodIn_app (goodIn_of _ (by decide +kernel)) ggX6_shorter_X5_cell
set_option maxRecDepth 20000 in
theorem ggX6_shorter_X6_hasBands : GoodIn wsX6_shorter wsX6_hasBands := goodIn_r _ [27, 1, 28, 29, 30, 31, 32, 33, 34, 35, 15, 36, 155, 156, 157, 158, 159, 160, 161, 162, 163, 164, 165, 166, 167, 168, 173, 174, 175, 176] (by decide +kernel) (by decide +kernel)
set_option maxRecDepth 20000 in
theorem gX6_shorter_X6_hasBands : GoodIn wsX6_shorter (wsV RX6 191 RX6 yX6_hasBands wsX6_hasBands) := goodIn_app (goodIn_of _ (by decide +kernel)) ggX6_shorter_X6_hasBands
set_option maxRecDepth 20000 in
theorem ggX6_shorter_X5_copyRow : GoodIn wsX6_shorter wsX5_copyRow := goodIn_r _ [40, 22, 41, 18, 19, 10, 20, 21, 23, 42, 43, 44, 45, 169, 170, 171, 172] (by decide +kernel) (by decide +kernel)
set_option maxRecDepth 20000 in
theorem gX6_shorter_X5_copyRow : GoodIn wsX6_shorter (wsV RX6 248 RX5 yX5_copyRow wsX5_copyRow) := goodIn_app (goodIn_of _ (by decide +kernel)) ggX6_shorter_X5_copyRow
set_option maxRecDepth 20000 in
theorem ggX6_shorter_X6_trialCharge : GoodIn wsX6_shorter wsX6_trialCharge := goodIn_r _ [49, 1, 5, 50, 51, 52, 53, 54, 55, 56, 57, 58, 59, 60, 61, 62, 63, 18, 19, 10, 20, 21, 22, 23, 64, 15, 65, 17, 66, 67, 68, 69, 70, 71, 72, 73, 74, 43, 44, 45, 75, 76, 77, 78, 79, 80, 81, 82, 83, 84, 85, 86, 32, 87, 88, 89, 90, 91, 92, 93, 30, 31, 33, 34, 35, 36, 94, 95, 96, 97, 98, 99, 100, 101, 102, 103, 104, 105, 106, 107, 108, 109, 110, 111, 112, 113, 114, 115, 116, 117, 118, 119, 120, 121, 122, 123, 124, 125, 126, 127, 128, 129, 130, 131, 132, 133, 134, 135, 136, 137, 138, 139, 140, 141, 142, 143, 144, 145, 146, 147, 148, 149, 150, 151, 152, 153, 154, 155, 156, 157, 158, 159, 160, 161, 162, 163, 164, 165, 166, 167, 168, 169, 170, 171, 172, 177, 178, 179, 180, 181, 182, 183, 184, 185, 186, 187, 173, 174, 175, 176, 188] (by decide +kernel) (by decide +kernel)
set_option maxRecDepth 20000 in
theorem gX6_shorter_X6_trialCharge : GoodIn wsX6_shorter (wsV RX6 207 RX6 yX6_trialCharge wsX6_trialCharge) := goodIn_app (goodIn_of _ (by decide +kernel)) ggX6_shorter_X6_trialCharge
set_option maxRecDepth 20000 in
theorem ggX6_shorter_X5_put : GoodIn wsX6_shorter wsX5_put := goodIn_r _ [45, 21, 22, 23, 169, 170, 171, 172] (by decide +kernel) (by decide +kernel)
set_option maxRecDepth 20000 in
theorem gX6_shorter_X5_put : GoodIn wsX6_shorter (wsV RX6 232 RX5 yX5_put wsX5_put) := goodIn_app (goodIn_of _ (by decide +kernel)) ggX6_shorter_X5_put
theorem dX6_shorter_0 : decode cX6_shorter 0 = .ok (.aload_n 0, 1) := by decide +kernel
theorem dX6_shorter_1 : decode cX6_shorter 1 = .ok (.getfield 12, 3) := by decide +kernel
theorem dX6_shorter_4 : decode cX6_shorter 4 = .ok (.getfield 194, 3) := by decide +kernel
theorem dX6_shorter_7 : decode cX6_shorter 7 = .ok (.iload_n 1, 1) := by decide +kernel
theorem dX6_shorter_8 : decode cX6_shorter 8 = .ok (.invokevirtual 210, 3) := by decide +kernel
theorem dX6_shorter_11 : decode cX6_shorter 11 = .ok (.ifCond .eq 12, 3) := by decide +kernel
theorem dX6_shorter_14 : decode cX6_shorter 14 = .ok (.iload_n 2, 1) := by decide +kernel
theorem dX6_shorter_15 : decode cX6_shorter 15 = .ok (.iconst 1, 1) := by decide +kernel
theorem dX6_shorter_16 : decode cX6_shorter 16 = .ok (.iconst 3, 1) := by decide +kernel
theorem dX6_shorter_17 : decode cX6_shorter 17 = .ok (.invokestatic 55, 3) := by decide +kernel
theorem dX6_shorter_20 : decode cX6_shorter 20 = .ok (.ifCond .ne 6, 3) := by decide +kernel
theorem dX6_shorter_23 : decode cX6_shorter 23 = .ok (.ldc 54, 2) := by decide +kernel
theorem dX6_shorter_25 : decode cX6_shorter 25 = .ok (.ireturn, 1) := by decide +kernel
theorem dX6_shorter_26 : decode cX6_shorter 26 = .ok (.aload_n 0, 1) := by decide +kernel
theorem dX6_shorter_27 : decode cX6_shorter 27 = .ok (.aload_n 0, 1) := by decide +kernel
theorem dX6_shorter_28 : decode cX6_shorter 28 = .ok (.getfield 12, 3) := by decide +kernel
theorem dX6_shorter_31 : decode cX6_shorter 31 = .ok (.getfield 194, 3) := by decide +kernel
theorem dX6_shorter_34 : decode cX6_shorter 34 = .ok (.iload_n 1, 1) := by decide +kernel
theorem dX6_shorter_35 : decode cX6_shorter 35 = .ok (.iconst 4, 1) := by decide +kernel
theorem dX6_shorter_36 : decode cX6_shorter 36 = .ok (.invokevirtual 216, 3) := by decide +kernel
theorem dX6_shorter_39 : decode cX6_shorter 39 = .ok (.invokevirtual 191, 3) := by decide +kernel
theorem dX6_shorter_42 : decode cX6_shorter 42 = .ok (.ifCond .ne 6, 3) := by decide +kernel
theorem dX6_shorter_45 : decode cX6_shorter 45 = .ok (.ldc 87, 2) := by decide +kernel
theorem dX6_shorter_47 : decode cX6_shorter 47 = .ok (.ireturn, 1) := by decide +kernel
theorem dX6_shorter_48 : decode cX6_shorter 48 = .ok (.aload_n 0, 1) := by decide +kernel
theorem dX6_shorter_49 : decode cX6_shorter 49 = .ok (.getfield 36, 3) := by decide +kernel
theorem dX6_shorter_52 : decode cX6_shorter 52 = .ok (.iconst 0, 1) := by decide +kernel
theorem dX6_shorter_53 : decode cX6_shorter 53 = .ok (.aload_n 0, 1) := by decide +kernel
theorem dX6_shorter_54 : decode cX6_shorter 54 = .ok (.getfield 12, 3) := by decide +kernel
theorem dX6_shorter_57 : decode cX6_shorter 57 = .ok (.getfield 194, 3) := by decide +kernel
theorem dX6_shorter_60 : decode cX6_shorter 60 = .ok (.iload_n 1, 1) := by decide +kernel
theorem dX6_shorter_61 : decode cX6_shorter 61 = .ok (.invokevirtual 248, 3) := by decide +kernel
theorem dX6_shorter_64 : decode cX6_shorter 64 = .ok (.aload_n 0, 1) := by decide +kernel
theorem dX6_shorter_65 : decode cX6_shorter 65 = .ok (.getfield 36, 3) := by decide +kernel
theorem dX6_shorter_68 : decode cX6_shorter 68 = .ok (.iconst 0, 1) := by decide +kernel
theorem dX6_shorter_69 : decode cX6_shorter 69 = .ok (.iload_n 2, 1) := by decide +kernel
theorem dX6_shorter_70 : decode cX6_shorter 70 = .ok (.invokevirtual 216, 3) := by decide +kernel
theorem dX6_shorter_73 : decode cX6_shorter 73 = .ok (.istore_n 3, 1) := by decide +kernel
theorem dX6_shorter_74 : decode cX6_shorter 74 = .ok (.aload_n 0, 1) := by decide +kernel
theorem dX6_shorter_75 : decode cX6_shorter 75 = .ok (.invokevirtual 207, 3) := by decide +kernel
theorem dX6_shorter_78 : decode cX6_shorter 78 = .ok (.istore 4, 2) := by decide +kernel
theorem dX6_shorter_80 : decode cX6_shorter 80 = .ok (.iconst 1, 1) := by decide +kernel
theorem dX6_shorter_81 : decode cX6_shorter 81 = .ok (.istore 5, 2) := by decide +kernel
theorem dX6_shorter_83 : decode cX6_shorter 83 = .ok (.iload 5, 2) := by decide +kernel
theorem dX6_shorter_85 : decode cX6_shorter 85 = .ok (.iload_n 3, 1) := by decide +kernel
theorem dX6_shorter_86 : decode cX6_shorter 86 = .ok (.if_icmp .ge 34, 3) := by decide +kernel
theorem dX6_shorter_89 : decode cX6_shorter 89 = .ok (.aload_n 0, 1) := by decide +kernel
theorem dX6_shorter_90 : decode cX6_shorter 90 = .ok (.getfield 36, 3) := by decide +kernel
theorem dX6_shorter_93 : decode cX6_shorter 93 = .ok (.iconst 0, 1) := by decide +kernel
theorem dX6_shorter_94 : decode cX6_shorter 94 = .ok (.iload_n 2, 1) := by decide +kernel
theorem dX6_shorter_95 : decode cX6_shorter 95 = .ok (.iload_n 3, 1) := by decide +kernel
theorem dX6_shorter_96 : decode cX6_shorter 96 = .ok (.iload 5, 2) := by decide +kernel
theorem dX6_shorter_98 : decode cX6_shorter 98 = .ok (.isub, 1) := by decide +kernel
theorem dX6_shorter_99 : decode cX6_shorter 99 = .ok (.invokevirtual 232, 3) := by decide +kernel
theorem dX6_shorter_102 : decode cX6_shorter 102 = .ok (.aload_n 0, 1) := by decide +kernel
theorem dX6_shorter_103 : decode cX6_shorter 103 = .ok (.invokevirtual 207, 3) := by decide +kernel
theorem dX6_shorter_106 : decode cX6_shorter 106 = .ok (.iload 4, 2) := by decide +kernel
theorem dX6_shorter_108 : decode cX6_shorter 108 = .ok (.if_icmp .ge 6, 3) := by decide +kernel
theorem dX6_shorter_111 : decode cX6_shorter 111 = .ok (.iload 5, 2) := by decide +kernel
theorem dX6_shorter_113 : decode cX6_shorter 113 = .ok (.ireturn, 1) := by decide +kernel
theorem dX6_shorter_114 : decode cX6_shorter 114 = .ok (.iinc 5 1, 3) := by decide +kernel
theorem dX6_shorter_117 : decode cX6_shorter 117 = .ok (.goto (-34), 3) := by decide +kernel
theorem dX6_shorter_120 : decode cX6_shorter 120 = .ok (.ldc 219, 2) := by decide +kernel
theorem dX6_shorter_122 : decode cX6_shorter 122 = .ok (.ireturn, 1) := by decide +kernel
set_option maxRecDepth 20000 in
theorem ggX6_cheapest_X5_has : GoodIn wsX6_cheapest wsX5_has := goodIn_r _ [10, 11, 165, 166, 167, 168] (by decide +kernel) (by decide +kernel)
set_option maxRecDepth 20000 in
theorem gX6_cheapest_X5_has : GoodIn wsX6_cheapest (wsV RX6 210 RX5 yX5_has wsX5_has) := goodIn_app (goodIn_of _ (by decide +kernel)) ggX6_cheapest_X5_has
set_option maxRecDepth 20000 in
theorem ggX6_cheapest_X5_copyRow : GoodIn wsX6_cheapest wsX5_copyRow := goodIn_r _ [15, 16, 17, 18, 19, 9, 20, 21, 22, 23, 24, 25, 26, 165, 166, 167, 168] (by decide +kernel) (by decide +kernel)
set_option maxRecDepth 20000 in
theorem gX6_cheapest_X5_copyRow : GoodIn wsX6_cheapest (wsV RX6 248 RX5 yX5_copyRow wsX5_copyRow) := goodIn_app (goodIn_of _ (by decide +kernel)) ggX6_cheapest_X5_copyRow
set_option maxRecDepth 20000 in
theorem ggX6_cheapest_X6_hasBands : GoodIn wsX6_cheapest wsX6_hasBands := goodIn_r _ [31, 1, 32, 33, 34, 35, 36, 37, 38, 39, 30, 40, 151, 152, 153, 154, 155, 156, 157, 158, 159, 160, 161, 162, 163, 164, 169, 170, 171, 172] (by decide +kernel) (by decide +kernel)
set_option maxRecDepth 20000 in
theorem gX6_cheapest_X6_hasBands : GoodIn wsX6_cheapest (wsV RX6 191 RX6 yX6_hasBands wsX6_hasBands) := goodIn_app (goodIn_of _ (by decide +kernel)) ggX6_cheapest_X6_hasBands
set_option maxRecDepth 20000 in
theorem ggX6_cheapest_X5_put : GoodIn wsX6_cheapest wsX5_put := goodIn_r _ [26, 21, 16, 22, 165, 166, 167, 168] (by decide +kernel) (by decide +kernel)
set_option maxRecDepth 20000 in
theorem gX6_cheapest_X5_put : GoodIn wsX6_cheapest (wsV RX6 232 RX5 yX5_put wsX5_put) := goodIn_app (goodIn_of _ (by decide +kernel)) ggX6_cheapest_X5_put
set_option maxRecDepth 20000 in
theorem ggX6_cheapest_X6_trialCharge : GoodIn wsX6_cheapest wsX6_trialCharge := goodIn_r _ [45, 1, 4, 46, 47, 48, 49, 50, 51, 52, 53, 54, 55, 56, 57, 58, 59, 18, 19, 9, 20, 21, 16, 22, 60, 30, 61, 62, 63, 64, 65, 66, 67, 68, 69, 70, 71, 24, 25, 26, 72, 73, 74, 75, 76, 77, 78, 79, 41, 80, 81, 82, 36, 83, 84, 85, 86, 87, 88, 89, 34, 35, 37, 38, 39, 40, 90, 91, 92, 93, 94, 95, 96, 97, 98, 99, 100, 101, 102, 103, 104, 105, 106, 107, 108, 109, 110, 111, 112, 113, 114, 115, 116, 117, 118, 119, 120, 121, 122, 123, 124, 125, 126, 127, 128, 129, 130, 131, 132, 133, 134, 135, 136, 137, 138, 139, 140, 141, 142, 143, 144, 145, 146, 147, 148, 149, 150, 151, 152, 153, 154, 155, 156, 157, 158, 159, 160, 161, 162, 163, 164, 165, 166, 167, 168, 173, 174, 175, 176, 177, 178, 179, 180, 181, 182, 183, 169, 170, 171, 172, 184] (by decide +kernel) (by decide +kernel)
set_option maxRecDepth 20000 in
theorem gX6_cheapest_X6_trialCharge : GoodIn wsX6_cheapest (wsV RX6 207 RX6 yX6_trialCharge wsX6_trialCharge) := goodIn_app (goodIn_of _ (by decide +kernel)) ggX6_cheapest_X6_trialCharge
theorem dX6_cheapest_0 : decode cX6_cheapest 0 = .ok (.aload_n 0, 1) := by decide +kernel
theorem dX6_cheapest_1 : decode cX6_cheapest 1 = .ok (.getfield 12, 3) := by decide +kernel
theorem dX6_cheapest_4 : decode cX6_cheapest 4 = .ok (.getfield 194, 3) := by decide +kernel
theorem dX6_cheapest_7 : decode cX6_cheapest 7 = .ok (.iload_n 1, 1) := by decide +kernel
theorem dX6_cheapest_8 : decode cX6_cheapest 8 = .ok (.invokevirtual 210, 3) := by decide +kernel
theorem dX6_cheapest_11 : decode cX6_cheapest 11 = .ok (.ifCond .ne 6, 3) := by decide +kernel
theorem dX6_cheapest_14 : decode cX6_cheapest 14 = .ok (.ldc 54, 2) := by decide +kernel
theorem dX6_cheapest_16 : decode cX6_cheapest 16 = .ok (.ireturn, 1) := by decide +kernel
theorem dX6_cheapest_17 : decode cX6_cheapest 17 = .ok (.aload_n 0, 1) := by decide +kernel
theorem dX6_cheapest_18 : decode cX6_cheapest 18 = .ok (.getfield 36, 3) := by decide +kernel
theorem dX6_cheapest_21 : decode cX6_cheapest 21 = .ok (.iconst 0, 1) := by decide +kernel
theorem dX6_cheapest_22 : decode cX6_cheapest 22 = .ok (.aload_n 0, 1) := by decide +kernel
theorem dX6_cheapest_23 : decode cX6_cheapest 23 = .ok (.getfield 12, 3) := by decide +kernel
theorem dX6_cheapest_26 : decode cX6_cheapest 26 = .ok (.getfield 194, 3) := by decide +kernel
theorem dX6_cheapest_29 : decode cX6_cheapest 29 = .ok (.iload_n 1, 1) := by decide +kernel
theorem dX6_cheapest_30 : decode cX6_cheapest 30 = .ok (.invokevirtual 248, 3) := by decide +kernel
theorem dX6_cheapest_33 : decode cX6_cheapest 33 = .ok (.ldc 219, 2) := by decide +kernel
theorem dX6_cheapest_35 : decode cX6_cheapest 35 = .ok (.istore_n 2, 1) := by decide +kernel
theorem dX6_cheapest_36 : decode cX6_cheapest 36 = .ok (.iconst 0, 1) := by decide +kernel
theorem dX6_cheapest_37 : decode cX6_cheapest 37 = .ok (.istore_n 3, 1) := by decide +kernel
theorem dX6_cheapest_38 : decode cX6_cheapest 38 = .ok (.iconst 0, 1) := by decide +kernel
theorem dX6_cheapest_39 : decode cX6_cheapest 39 = .ok (.istore 4, 2) := by decide +kernel
theorem dX6_cheapest_41 : decode cX6_cheapest 41 = .ok (.iload 4, 2) := by decide +kernel
theorem dX6_cheapest_43 : decode cX6_cheapest 43 = .ok (.iconst 4, 1) := by decide +kernel
theorem dX6_cheapest_44 : decode cX6_cheapest 44 = .ok (.if_icmp .ge 53, 3) := by decide +kernel
theorem dX6_cheapest_47 : decode cX6_cheapest 47 = .ok (.aload_n 0, 1) := by decide +kernel
theorem dX6_cheapest_48 : decode cX6_cheapest 48 = .ok (.iload 4, 2) := by decide +kernel
theorem dX6_cheapest_50 : decode cX6_cheapest 50 = .ok (.invokevirtual 191, 3) := by decide +kernel
theorem dX6_cheapest_53 : decode cX6_cheapest 53 = .ok (.ifCond .eq 38, 3) := by decide +kernel
theorem dX6_cheapest_56 : decode cX6_cheapest 56 = .ok (.aload_n 0, 1) := by decide +kernel
theorem dX6_cheapest_57 : decode cX6_cheapest 57 = .ok (.getfield 36, 3) := by decide +kernel
theorem dX6_cheapest_60 : decode cX6_cheapest 60 = .ok (.iconst 0, 1) := by decide +kernel
theorem dX6_cheapest_61 : decode cX6_cheapest 61 = .ok (.iconst 4, 1) := by decide +kernel
theorem dX6_cheapest_62 : decode cX6_cheapest 62 = .ok (.iload 4, 2) := by decide +kernel
theorem dX6_cheapest_64 : decode cX6_cheapest 64 = .ok (.invokevirtual 232, 3) := by decide +kernel
theorem dX6_cheapest_67 : decode cX6_cheapest 67 = .ok (.aload_n 0, 1) := by decide +kernel
theorem dX6_cheapest_68 : decode cX6_cheapest 68 = .ok (.invokevirtual 207, 3) := by decide +kernel
theorem dX6_cheapest_71 : decode cX6_cheapest 71 = .ok (.istore 5, 2) := by decide +kernel
theorem dX6_cheapest_73 : decode cX6_cheapest 73 = .ok (.iload_n 2, 1) := by decide +kernel
theorem dX6_cheapest_74 : decode cX6_cheapest 74 = .ok (.ldc 219, 2) := by decide +kernel
theorem dX6_cheapest_76 : decode cX6_cheapest 76 = .ok (.if_icmp .eq 9, 3) := by decide +kernel
theorem dX6_cheapest_79 : decode cX6_cheapest 79 = .ok (.iload 5, 2) := by decide +kernel
theorem dX6_cheapest_81 : decode cX6_cheapest 81 = .ok (.iload_n 3, 1) := by decide +kernel
theorem dX6_cheapest_82 : decode cX6_cheapest 82 = .ok (.if_icmp .ge 9, 3) := by decide +kernel
theorem dX6_cheapest_85 : decode cX6_cheapest 85 = .ok (.iload 4, 2) := by decide +kernel
theorem dX6_cheapest_87 : decode cX6_cheapest 87 = .ok (.istore_n 2, 1) := by decide +kernel
theorem dX6_cheapest_88 : decode cX6_cheapest 88 = .ok (.iload 5, 2) := by decide +kernel
theorem dX6_cheapest_90 : decode cX6_cheapest 90 = .ok (.istore_n 3, 1) := by decide +kernel
theorem dX6_cheapest_91 : decode cX6_cheapest 91 = .ok (.iinc 4 1, 3) := by decide +kernel
theorem dX6_cheapest_94 : decode cX6_cheapest 94 = .ok (.goto (-53), 3) := by decide +kernel
theorem dX6_cheapest_97 : decode cX6_cheapest 97 = .ok (.iload_n 2, 1) := by decide +kernel
theorem dX6_cheapest_98 : decode cX6_cheapest 98 = .ok (.ireturn, 1) := by decide +kernel
set_option maxRecDepth 20000 in
theorem ggX6_undo_X4_copyFrom : GoodIn wsX6_undo wsX4_copyFrom := goodIn_r _ [10, 11, 12, 13, 14, 15, 16, 17, 18, 19, 20, 21, 22, 23, 24, 25, 26, 27, 28, 29, 30, 31, 32, 33, 34, 35, 36, 37, 38, 39, 40, 41, 42, 43, 44, 45, 46, 47, 48, 49, 50, 51, 52, 53, 54, 55, 56, 57, 58, 59, 60, 61, 62, 63, 64, 65, 66, 67, 68, 69, 70, 71, 72, 73, 74, 75, 76, 77, 78, 79, 80, 81, 82, 83, 84, 85, 86, 87, 88, 89, 90, 91, 92, 93, 94, 95, 96, 97, 98, 99, 108, 109, 110, 111, 112, 113, 114, 115, 116, 117, 118, 119, 120, 121, 122, 123, 124, 125, 126, 127, 128, 129, 130, 131, 132, 133] (by decide +kernel) (by decide +kernel)
set_option maxRecDepth 20000 in
theorem gX6_undo_X4_copyFrom : GoodIn wsX6_undo (wsV RX6 261 RX4 yX4_copyFrom wsX4_copyFrom) := goodIn_app (goodIn_of _ (by decide +kernel)) ggX6_undo_X4_copyFrom
theorem dX6_undo_0 : decode cX6_undo 0 = .ok (.aload_n 0, 1) := by decide +kernel
theorem dX6_undo_1 : decode cX6_undo 1 = .ok (.getfield 255, 3) := by decide +kernel
theorem dX6_undo_4 : decode cX6_undo 4 = .ok (.ifCond .gt 6, 3) := by decide +kernel
theorem dX6_undo_7 : decode cX6_undo 7 = .ok (.ldc 219, 2) := by decide +kernel
theorem dX6_undo_9 : decode cX6_undo 9 = .ok (.ireturn, 1) := by decide +kernel
theorem dX6_undo_10 : decode cX6_undo 10 = .ok (.aload_n 0, 1) := by decide +kernel
theorem dX6_undo_11 : decode cX6_undo 11 = .ok (.dup, 1) := by decide +kernel
theorem dX6_undo_12 : decode cX6_undo 12 = .ok (.getfield 255, 3) := by decide +kernel
theorem dX6_undo_15 : decode cX6_undo 15 = .ok (.iconst 1, 1) := by decide +kernel
theorem dX6_undo_16 : decode cX6_undo 16 = .ok (.isub, 1) := by decide +kernel
theorem dX6_undo_17 : decode cX6_undo 17 = .ok (.putfield 255, 3) := by decide +kernel
theorem dX6_undo_20 : decode cX6_undo 20 = .ok (.aload_n 0, 1) := by decide +kernel
theorem dX6_undo_21 : decode cX6_undo 21 = .ok (.aload_n 0, 1) := by decide +kernel
theorem dX6_undo_22 : decode cX6_undo 22 = .ok (.getfield 258, 3) := by decide +kernel
theorem dX6_undo_25 : decode cX6_undo 25 = .ok (.ifCond .le 12, 3) := by decide +kernel
theorem dX6_undo_28 : decode cX6_undo 28 = .ok (.aload_n 0, 1) := by decide +kernel
theorem dX6_undo_29 : decode cX6_undo 29 = .ok (.getfield 258, 3) := by decide +kernel
theorem dX6_undo_32 : decode cX6_undo 32 = .ok (.iconst 1, 1) := by decide +kernel
theorem dX6_undo_33 : decode cX6_undo 33 = .ok (.isub, 1) := by decide +kernel
theorem dX6_undo_34 : decode cX6_undo 34 = .ok (.goto 4, 3) := by decide +kernel
theorem dX6_undo_37 : decode cX6_undo 37 = .ok (.iconst 3, 1) := by decide +kernel
theorem dX6_undo_38 : decode cX6_undo 38 = .ok (.putfield 258, 3) := by decide +kernel
theorem dX6_undo_41 : decode cX6_undo 41 = .ok (.aload_n 0, 1) := by decide +kernel
theorem dX6_undo_42 : decode cX6_undo 42 = .ok (.getfield 258, 3) := by decide +kernel
theorem dX6_undo_45 : decode cX6_undo 45 = .ok (.ifCond .lt 43, 3) := by decide +kernel
theorem dX6_undo_48 : decode cX6_undo 48 = .ok (.aload_n 0, 1) := by decide +kernel
theorem dX6_undo_49 : decode cX6_undo 49 = .ok (.getfield 258, 3) := by decide +kernel
theorem dX6_undo_52 : decode cX6_undo 52 = .ok (.aload_n 0, 1) := by decide +kernel
theorem dX6_undo_53 : decode cX6_undo 53 = .ok (.getfield 16, 3) := by decide +kernel
theorem dX6_undo_56 : decode cX6_undo 56 = .ok (.arraylength, 1) := by decide +kernel
theorem dX6_undo_57 : decode cX6_undo 57 = .ok (.if_icmp .ge 31, 3) := by decide +kernel
theorem dX6_undo_60 : decode cX6_undo 60 = .ok (.aload_n 0, 1) := by decide +kernel
theorem dX6_undo_61 : decode cX6_undo 61 = .ok (.getfield 16, 3) := by decide +kernel
theorem dX6_undo_64 : decode cX6_undo 64 = .ok (.aload_n 0, 1) := by decide +kernel
theorem dX6_undo_65 : decode cX6_undo 65 = .ok (.getfield 258, 3) := by decide +kernel
theorem dX6_undo_68 : decode cX6_undo 68 = .ok (.aaload, 1) := by decide +kernel
theorem dX6_undo_69 : decode cX6_undo 69 = .ok (.ifnull 19, 3) := by decide +kernel
theorem dX6_undo_72 : decode cX6_undo 72 = .ok (.aload_n 0, 1) := by decide +kernel
theorem dX6_undo_73 : decode cX6_undo 73 = .ok (.getfield 12, 3) := by decide +kernel
theorem dX6_undo_76 : decode cX6_undo 76 = .ok (.aload_n 0, 1) := by decide +kernel
theorem dX6_undo_77 : decode cX6_undo 77 = .ok (.getfield 16, 3) := by decide +kernel
theorem dX6_undo_80 : decode cX6_undo 80 = .ok (.aload_n 0, 1) := by decide +kernel
theorem dX6_undo_81 : decode cX6_undo 81 = .ok (.getfield 258, 3) := by decide +kernel
theorem dX6_undo_84 : decode cX6_undo 84 = .ok (.aaload, 1) := by decide +kernel
theorem dX6_undo_85 : decode cX6_undo 85 = .ok (.invokevirtual 261, 3) := by decide +kernel
theorem dX6_undo_88 : decode cX6_undo 88 = .ok (.aload_n 0, 1) := by decide +kernel
theorem dX6_undo_89 : decode cX6_undo 89 = .ok (.getfield 255, 3) := by decide +kernel
theorem dX6_undo_92 : decode cX6_undo 92 = .ok (.ireturn, 1) := by decide +kernel
set_option maxRecDepth 20000 in
theorem ggX6_fingerprint_X6_setting : GoodIn wsX6_fingerprint wsX6_setting := goodIn_r _ [8, 2, 9, 10, 11, 12, 13, 7, 14, 15, 16, 17, 18, 19, 20, 188, 189, 190, 191, 192, 193, 194, 195, 196, 197, 198, 199, 200, 201, 202, 203, 204, 205, 206, 207, 208, 209, 210, 211, 212] (by decide +kernel) (by decide +kernel)
set_option maxRecDepth 20000 in
theorem gX6_fingerprint_X6_setting : GoodIn wsX6_fingerprint (wsV RX6 269 RX6 yX6_setting wsX6_setting) := goodIn_app (goodIn_of _ (by decide +kernel)) ggX6_fingerprint_X6_setting
set_option maxRecDepth 20000 in
theorem ggX6_fingerprint_X6_scale : GoodIn wsX6_fingerprint wsX6_scale := goodIn_r _ [24, 9, 10, 11, 25, 26, 7, 27, 28, 29, 30, 18, 31, 32, 33, 34, 35, 36, 37, 38, 39, 40, 41, 42, 16, 17, 19, 20, 43, 44, 45, 46, 47, 48, 49, 50, 51, 52, 53, 54, 55, 56, 57, 58, 59, 60, 61, 62, 63, 64, 65, 66, 67, 68, 69, 70, 71, 72, 73, 74, 75, 76, 77, 188, 189, 190, 191, 192, 193, 194, 195, 196, 197, 198, 199, 200, 201, 202, 203, 204, 205, 206, 207, 208, 209, 210, 211, 212] (by decide +kernel) (by decide +kernel)
set_option maxRecDepth 20000 in
theorem gX6_fingerprint_X6_scale : GoodIn wsX6_fingerprint (wsV RX6 272 RX6 yX6_scale wsX6_scale) := goodIn_app (goodIn_of _ (by decide +kernel)) ggX6_fingerprint_X6_scale
set_option maxRecDepth 20000 in
theorem ggX6_fingerprint_X6_printBands : GoodIn wsX6_fingerprint wsX6_printBands := goodIn_r _ [81, 9, 82, 3, 83, 84, 85, 86, 87, 88, 13, 7, 14, 89, 90, 91, 92, 11, 93, 94, 95, 96, 25, 26, 27, 97, 98, 99, 100, 101, 102, 103, 104, 105, 106, 107, 108, 109, 110, 111, 112, 188, 189, 190, 191, 192, 193, 194, 195, 196, 197, 198, 199, 200, 201, 213, 214, 215, 216] (by decide +kernel) (by decide +kernel)
set_option maxRecDepth 20000 in
theorem gX6_fingerprint_X6_printBands : GoodIn wsX6_fingerprint (wsV RX6 274 RX6 yX6_printBands wsX6_printBands) := goodIn_app (goodIn_of _ (by decide +kernel)) ggX6_fingerprint_X6_printBands
set_option maxRecDepth 20000 in
theorem ggX6_fingerprint_X6_rules : GoodIn wsX6_fingerprint wsX6_rules := goodIn_r _ [116, 9, 117, 118, 119, 120, 121, 122, 123, 124, 188, 189, 190, 191, 192, 193, 194, 195, 196, 197, 198, 199, 200, 201, 217, 218, 219, 220, 221] (by decide +kernel) (by decide +kernel)
set_option maxRecDepth 20000 in
theorem gX6_fingerprint_X6_rules : GoodIn wsX6_fingerprint (wsV RX6 278 RX6 yX6_rules wsX6_rules) := goodIn_app (goodIn_of _ (by decide +kernel)) ggX6_fingerprint_X6_rules
set_option maxRecDepth 20000 in
theorem ggX6_fingerprint_X6_printParcels : GoodIn wsX6_fingerprint wsX6_printParcels := goodIn_r _ [128, 3, 9, 129, 130, 131, 132, 7, 133, 134, 135, 136, 137, 138, 11, 139, 140, 141, 142, 143, 144, 25, 26, 27, 145, 146, 147, 148, 149, 150, 151, 152, 153, 154, 155, 156, 157, 158, 159, 160, 161, 188, 189, 190, 191, 192, 193, 194, 195, 196, 197, 198, 199, 200, 201, 218, 219, 220, 221] (by decide +kernel) (by decide +kernel)
set_option maxRecDepth 20000 in
theorem gX6_fingerprint_X6_printParcels : GoodIn wsX6_fingerprint (wsV RX6 280 RX6 yX6_printParcels wsX6_printParcels) := goodIn_app (goodIn_of _ (by decide +kernel)) ggX6_fingerprint_X6_printParcels
set_option maxRecDepth 20000 in
theorem ggX6_fingerprint_X6_printNotes : GoodIn wsX6_fingerprint wsX6_printNotes := goodIn_r _ [165, 3, 166, 167, 168, 7, 169, 9, 149, 134, 170, 171, 172, 173, 11, 139, 140, 141, 142, 143, 144, 25, 26, 27, 151, 152, 153, 154, 155, 156, 157, 188, 189, 190, 191, 192, 193, 194, 195, 196, 197, 198, 199, 200, 201, 218, 219, 220, 221] (by decide +kernel) (by decide +kernel)
set_option maxRecDepth 20000 in
theorem gX6_fingerprint_X6_printNotes : GoodIn wsX6_fingerprint (wsV RX6 283 RX6 yX6_printNotes wsX6_printNotes) := goodIn_app (goodIn_of _ (by decide +kernel)) ggX6_fingerprint_X6_printNotes
set_option maxRecDepth 20000 in
theorem ggX6_fingerprint_X6_sum : GoodIn wsX6_fingerprint wsX6_sum := goodIn_r _ [177, 9, 129, 149, 178, 179, 180, 181, 142, 182, 144, 183, 152, 153, 154, 155, 156, 157, 184, 185, 186, 187, 188, 189, 190, 191, 192, 193, 194, 195, 196, 197, 198, 199, 200, 201, 218, 219, 220, 221] (by decide +kernel) (by decide +kernel)
set_option maxRecDepth 20000 in
theorem gX6_fingerprint_X6_sum : GoodIn wsX6_fingerprint (wsV RX6 286 RX6 yX6_sum wsX6_sum) := goodIn_app (goodIn_of _ (by decide +kernel)) ggX6_fingerprint_X6_sum
theorem dX6_fingerprint_0 : decode cX6_fingerprint 0 = .ok (.ldc2_w 265, 3) := by decide +kernel
theorem dX6_fingerprint_3 : decode cX6_fingerprint 3 = .ok (.lstore_n 1, 1) := by decide +kernel
theorem dX6_fingerprint_4 : decode cX6_fingerprint 4 = .ok (.iconst 0, 1) := by decide +kernel
theorem dX6_fingerprint_5 : decode cX6_fingerprint 5 = .ok (.istore_n 3, 1) := by decide +kernel
theorem dX6_fingerprint_6 : decode cX6_fingerprint 6 = .ok (.iload_n 3, 1) := by decide +kernel
theorem dX6_fingerprint_7 : decode cX6_fingerprint 7 = .ok (.getstatic 44, 3) := by decide +kernel
theorem dX6_fingerprint_10 : decode cX6_fingerprint 10 = .ok (.arraylength, 1) := by decide +kernel
theorem dX6_fingerprint_11 : decode cX6_fingerprint 11 = .ok (.if_icmp .ge 22, 3) := by decide +kernel
theorem dX6_fingerprint_14 : decode cX6_fingerprint 14 = .ok (.ldc2_w 267, 3) := by decide +kernel
theorem dX6_fingerprint_17 : decode cX6_fingerprint 17 = .ok (.lload_n 1, 1) := by decide +kernel
theorem dX6_fingerprint_18 : decode cX6_fingerprint 18 = .ok (.lmul, 1) := by decide +kernel
theorem dX6_fingerprint_19 : decode cX6_fingerprint 19 = .ok (.aload_n 0, 1) := by decide +kernel
theorem dX6_fingerprint_20 : decode cX6_fingerprint 20 = .ok (.iload_n 3, 1) := by decide +kernel
theorem dX6_fingerprint_21 : decode cX6_fingerprint 21 = .ok (.invokevirtual 269, 3) := by decide +kernel
theorem dX6_fingerprint_24 : decode cX6_fingerprint 24 = .ok (.i2l, 1) := by decide +kernel
theorem dX6_fingerprint_25 : decode cX6_fingerprint 25 = .ok (.ladd, 1) := by decide +kernel
theorem dX6_fingerprint_26 : decode cX6_fingerprint 26 = .ok (.lstore_n 1, 1) := by decide +kernel
theorem dX6_fingerprint_27 : decode cX6_fingerprint 27 = .ok (.iinc 3 1, 3) := by decide +kernel
theorem dX6_fingerprint_30 : decode cX6_fingerprint 30 = .ok (.goto (-24), 3) := by decide +kernel
theorem dX6_fingerprint_33 : decode cX6_fingerprint 33 = .ok (.iconst 0, 1) := by decide +kernel
theorem dX6_fingerprint_34 : decode cX6_fingerprint 34 = .ok (.istore_n 3, 1) := by decide +kernel
theorem dX6_fingerprint_35 : decode cX6_fingerprint 35 = .ok (.iload_n 3, 1) := by decide +kernel
theorem dX6_fingerprint_36 : decode cX6_fingerprint 36 = .ok (.bipush 10, 2) := by decide +kernel
theorem dX6_fingerprint_38 : decode cX6_fingerprint 38 = .ok (.if_icmp .gt 22, 3) := by decide +kernel
theorem dX6_fingerprint_41 : decode cX6_fingerprint 41 = .ok (.ldc2_w 267, 3) := by decide +kernel
theorem dX6_fingerprint_44 : decode cX6_fingerprint 44 = .ok (.lload_n 1, 1) := by decide +kernel
theorem dX6_fingerprint_45 : decode cX6_fingerprint 45 = .ok (.lmul, 1) := by decide +kernel
theorem dX6_fingerprint_46 : decode cX6_fingerprint 46 = .ok (.aload_n 0, 1) := by decide +kernel
theorem dX6_fingerprint_47 : decode cX6_fingerprint 47 = .ok (.iload_n 3, 1) := by decide +kernel
theorem dX6_fingerprint_48 : decode cX6_fingerprint 48 = .ok (.invokevirtual 272, 3) := by decide +kernel
theorem dX6_fingerprint_51 : decode cX6_fingerprint 51 = .ok (.i2l, 1) := by decide +kernel
theorem dX6_fingerprint_52 : decode cX6_fingerprint 52 = .ok (.ladd, 1) := by decide +kernel
theorem dX6_fingerprint_53 : decode cX6_fingerprint 53 = .ok (.lstore_n 1, 1) := by decide +kernel
theorem dX6_fingerprint_54 : decode cX6_fingerprint 54 = .ok (.iinc 3 1, 3) := by decide +kernel
theorem dX6_fingerprint_57 : decode cX6_fingerprint 57 = .ok (.goto (-22), 3) := by decide +kernel
theorem dX6_fingerprint_60 : decode cX6_fingerprint 60 = .ok (.aload_n 0, 1) := by decide +kernel
theorem dX6_fingerprint_61 : decode cX6_fingerprint 61 = .ok (.lload_n 1, 1) := by decide +kernel
theorem dX6_fingerprint_62 : decode cX6_fingerprint 62 = .ok (.invokevirtual 274, 3) := by decide +kernel
theorem dX6_fingerprint_65 : decode cX6_fingerprint 65 = .ok (.lstore_n 1, 1) := by decide +kernel
theorem dX6_fingerprint_66 : decode cX6_fingerprint 66 = .ok (.ldc2_w 267, 3) := by decide +kernel
theorem dX6_fingerprint_69 : decode cX6_fingerprint 69 = .ok (.lload_n 1, 1) := by decide +kernel
theorem dX6_fingerprint_70 : decode cX6_fingerprint 70 = .ok (.lmul, 1) := by decide +kernel
theorem dX6_fingerprint_71 : decode cX6_fingerprint 71 = .ok (.aload_n 0, 1) := by decide +kernel
theorem dX6_fingerprint_72 : decode cX6_fingerprint 72 = .ok (.invokevirtual 278, 3) := by decide +kernel
theorem dX6_fingerprint_75 : decode cX6_fingerprint 75 = .ok (.i2l, 1) := by decide +kernel
theorem dX6_fingerprint_76 : decode cX6_fingerprint 76 = .ok (.ladd, 1) := by decide +kernel
theorem dX6_fingerprint_77 : decode cX6_fingerprint 77 = .ok (.lstore_n 1, 1) := by decide +kernel
theorem dX6_fingerprint_78 : decode cX6_fingerprint 78 = .ok (.aload_n 0, 1) := by decide +kernel
theorem dX6_fingerprint_79 : decode cX6_fingerprint 79 = .ok (.lload_n 1, 1) := by decide +kernel
theorem dX6_fingerprint_80 : decode cX6_fingerprint 80 = .ok (.invokevirtual 280, 3) := by decide +kernel
theorem dX6_fingerprint_83 : decode cX6_fingerprint 83 = .ok (.lstore_n 1, 1) := by decide +kernel
theorem dX6_fingerprint_84 : decode cX6_fingerprint 84 = .ok (.aload_n 0, 1) := by decide +kernel
theorem dX6_fingerprint_85 : decode cX6_fingerprint 85 = .ok (.lload_n 1, 1) := by decide +kernel
theorem dX6_fingerprint_86 : decode cX6_fingerprint 86 = .ok (.invokevirtual 283, 3) := by decide +kernel
theorem dX6_fingerprint_89 : decode cX6_fingerprint 89 = .ok (.lstore_n 1, 1) := by decide +kernel
theorem dX6_fingerprint_90 : decode cX6_fingerprint 90 = .ok (.iconst 0, 1) := by decide +kernel
theorem dX6_fingerprint_91 : decode cX6_fingerprint 91 = .ok (.istore_n 3, 1) := by decide +kernel
theorem dX6_fingerprint_92 : decode cX6_fingerprint 92 = .ok (.iload_n 3, 1) := by decide +kernel
theorem dX6_fingerprint_93 : decode cX6_fingerprint 93 = .ok (.iconst 4, 1) := by decide +kernel
theorem dX6_fingerprint_94 : decode cX6_fingerprint 94 = .ok (.if_icmp .gt 21, 3) := by decide +kernel
theorem dX6_fingerprint_97 : decode cX6_fingerprint 97 = .ok (.ldc2_w 267, 3) := by decide +kernel
theorem dX6_fingerprint_100 : decode cX6_fingerprint 100 = .ok (.lload_n 1, 1) := by decide +kernel
theorem dX6_fingerprint_101 : decode cX6_fingerprint 101 = .ok (.lmul, 1) := by decide +kernel
theorem dX6_fingerprint_102 : decode cX6_fingerprint 102 = .ok (.aload_n 0, 1) := by decide +kernel
theorem dX6_fingerprint_103 : decode cX6_fingerprint 103 = .ok (.iload_n 3, 1) := by decide +kernel
theorem dX6_fingerprint_104 : decode cX6_fingerprint 104 = .ok (.invokevirtual 286, 3) := by decide +kernel
theorem dX6_fingerprint_107 : decode cX6_fingerprint 107 = .ok (.ladd, 1) := by decide +kernel
theorem dX6_fingerprint_108 : decode cX6_fingerprint 108 = .ok (.lstore_n 1, 1) := by decide +kernel
theorem dX6_fingerprint_109 : decode cX6_fingerprint 109 = .ok (.iinc 3 1, 3) := by decide +kernel
theorem dX6_fingerprint_112 : decode cX6_fingerprint 112 = .ok (.goto (-20), 3) := by decide +kernel
theorem dX6_fingerprint_115 : decode cX6_fingerprint 115 = .ok (.lload_n 1, 1) := by decide +kernel
theorem dX6_fingerprint_116 : decode cX6_fingerprint 116 = .ok (.lreturn, 1) := by decide +kernel
set_option maxRecDepth 20000 in
theorem ggX6_printBands_X0_bandsOf : GoodIn wsX6_printBands wsX0_bandsOf := goodIn_r _ [8, 9, 10, 11, 12, 55, 56, 57, 58] (by decide +kernel) (by decide +kernel)
set_option maxRecDepth 20000 in
theorem gX6_printBands_X0_bandsOf : GoodIn wsX6_printBands (wsV RX6 137 RX0 yX0_bandsOf wsX0_bandsOf) := goodIn_app (goodIn_of _ (by decide +kernel)) ggX6_printBands_X0_bandsOf
set_option maxRecDepth 20000 in
theorem ggX6_printBands_X6_bandAt : GoodIn wsX6_printBands wsX6_bandAt := goodIn_r _ [16, 1, 2, 17, 18, 19, 20, 7, 21, 9, 22, 23, 11, 24, 25, 26, 27, 28, 29, 30, 10, 12, 31, 32, 33, 34, 35, 41, 42, 43, 44, 45, 46, 47, 48, 49, 50, 51, 52, 53, 54, 55, 56, 57, 58] (by decide +kernel) (by decide +kernel)
set_option maxRecDepth 20000 in
theorem gX6_printBands_X6_bandAt : GoodIn wsX6_printBands (wsV RX6 289 RX6 yX6_bandAt wsX6_bandAt) := goodIn_app (goodIn_of _ (by decide +kernel)) ggX6_printBands_X6_bandAt
set_option maxRecDepth 20000 in
theorem ggX6_printBands_X0_extraOf : GoodIn wsX6_printBands wsX0_extraOf := goodIn_r _ [39, 40, 10, 11, 12, 55, 56, 57, 58] (by decide +kernel) (by decide +kernel)
set_option maxRecDepth 20000 in
theorem gX6_printBands_X0_extraOf : GoodIn wsX6_printBands (wsV RX6 154 RX0 yX0_extraOf wsX0_extraOf) := goodIn_app (goodIn_of _ (by decide +kernel)) ggX6_printBands_X0_extraOf
theorem dX6_printBands_0 : decode cX6_printBands 0 = .ok (.lload_n 1, 1) := by decide +kernel
theorem dX6_printBands_1 : decode cX6_printBands 1 = .ok (.lstore_n 3, 1) := by decide +kernel
theorem dX6_printBands_2 : decode cX6_printBands 2 = .ok (.iconst 0, 1) := by decide +kernel
theorem dX6_printBands_3 : decode cX6_printBands 3 = .ok (.istore 5, 2) := by decide +kernel
theorem dX6_printBands_5 : decode cX6_printBands 5 = .ok (.iload 5, 2) := by decide +kernel
theorem dX6_printBands_7 : decode cX6_printBands 7 = .ok (.iconst 4, 1) := by decide +kernel
theorem dX6_printBands_8 : decode cX6_printBands 8 = .ok (.if_icmp .ge 103, 3) := by decide +kernel
theorem dX6_printBands_11 : decode cX6_printBands 11 = .ok (.aload_n 0, 1) := by decide +kernel
theorem dX6_printBands_12 : decode cX6_printBands 12 = .ok (.getfield 12, 3) := by decide +kernel
theorem dX6_printBands_15 : decode cX6_printBands 15 = .ok (.getfield 120, 3) := by decide +kernel
theorem dX6_printBands_18 : decode cX6_printBands 18 = .ok (.iload 5, 2) := by decide +kernel
theorem dX6_printBands_20 : decode cX6_printBands 20 = .ok (.invokevirtual 137, 3) := by decide +kernel
theorem dX6_printBands_23 : decode cX6_printBands 23 = .ok (.istore 6, 2) := by decide +kernel
theorem dX6_printBands_25 : decode cX6_printBands 25 = .ok (.ldc2_w 267, 3) := by decide +kernel
theorem dX6_printBands_28 : decode cX6_printBands 28 = .ok (.lload_n 3, 1) := by decide +kernel
theorem dX6_printBands_29 : decode cX6_printBands 29 = .ok (.lmul, 1) := by decide +kernel
theorem dX6_printBands_30 : decode cX6_printBands 30 = .ok (.iload 6, 2) := by decide +kernel
theorem dX6_printBands_32 : decode cX6_printBands 32 = .ok (.i2l, 1) := by decide +kernel
theorem dX6_printBands_33 : decode cX6_printBands 33 = .ok (.ladd, 1) := by decide +kernel
theorem dX6_printBands_34 : decode cX6_printBands 34 = .ok (.lstore_n 3, 1) := by decide +kernel
theorem dX6_printBands_35 : decode cX6_printBands 35 = .ok (.iconst 0, 1) := by decide +kernel
theorem dX6_printBands_36 : decode cX6_printBands 36 = .ok (.istore 7, 2) := by decide +kernel
theorem dX6_printBands_38 : decode cX6_printBands 38 = .ok (.iload 7, 2) := by decide +kernel
theorem dX6_printBands_40 : decode cX6_printBands 40 = .ok (.iload 6, 2) := by decide +kernel
theorem dX6_printBands_42 : decode cX6_printBands 42 = .ok (.if_icmp .ge 43, 3) := by decide +kernel
theorem dX6_printBands_45 : decode cX6_printBands 45 = .ok (.ldc2_w 267, 3) := by decide +kernel
theorem dX6_printBands_48 : decode cX6_printBands 48 = .ok (.lload_n 3, 1) := by decide +kernel
theorem dX6_printBands_49 : decode cX6_printBands 49 = .ok (.lmul, 1) := by decide +kernel
theorem dX6_printBands_50 : decode cX6_printBands 50 = .ok (.aload_n 0, 1) := by decide +kernel
theorem dX6_printBands_51 : decode cX6_printBands 51 = .ok (.iload 5, 2) := by decide +kernel
theorem dX6_printBands_53 : decode cX6_printBands 53 = .ok (.iload 7, 2) := by decide +kernel
theorem dX6_printBands_55 : decode cX6_printBands 55 = .ok (.iconst 0, 1) := by decide +kernel
theorem dX6_printBands_56 : decode cX6_printBands 56 = .ok (.invokevirtual 289, 3) := by decide +kernel
theorem dX6_printBands_59 : decode cX6_printBands 59 = .ok (.i2l, 1) := by decide +kernel
theorem dX6_printBands_60 : decode cX6_printBands 60 = .ok (.ladd, 1) := by decide +kernel
theorem dX6_printBands_61 : decode cX6_printBands 61 = .ok (.lstore_n 3, 1) := by decide +kernel
theorem dX6_printBands_62 : decode cX6_printBands 62 = .ok (.ldc2_w 267, 3) := by decide +kernel
theorem dX6_printBands_65 : decode cX6_printBands 65 = .ok (.lload_n 3, 1) := by decide +kernel
theorem dX6_printBands_66 : decode cX6_printBands 66 = .ok (.lmul, 1) := by decide +kernel
theorem dX6_printBands_67 : decode cX6_printBands 67 = .ok (.aload_n 0, 1) := by decide +kernel
theorem dX6_printBands_68 : decode cX6_printBands 68 = .ok (.iload 5, 2) := by decide +kernel
theorem dX6_printBands_70 : decode cX6_printBands 70 = .ok (.iload 7, 2) := by decide +kernel
theorem dX6_printBands_72 : decode cX6_printBands 72 = .ok (.iconst 1, 1) := by decide +kernel
theorem dX6_printBands_73 : decode cX6_printBands 73 = .ok (.invokevirtual 289, 3) := by decide +kernel
theorem dX6_printBands_76 : decode cX6_printBands 76 = .ok (.i2l, 1) := by decide +kernel
theorem dX6_printBands_77 : decode cX6_printBands 77 = .ok (.ladd, 1) := by decide +kernel
theorem dX6_printBands_78 : decode cX6_printBands 78 = .ok (.lstore_n 3, 1) := by decide +kernel
theorem dX6_printBands_79 : decode cX6_printBands 79 = .ok (.iinc 7 1, 3) := by decide +kernel
theorem dX6_printBands_82 : decode cX6_printBands 82 = .ok (.goto (-44), 3) := by decide +kernel
theorem dX6_printBands_85 : decode cX6_printBands 85 = .ok (.ldc2_w 267, 3) := by decide +kernel
theorem dX6_printBands_88 : decode cX6_printBands 88 = .ok (.lload_n 3, 1) := by decide +kernel
theorem dX6_printBands_89 : decode cX6_printBands 89 = .ok (.lmul, 1) := by decide +kernel
theorem dX6_printBands_90 : decode cX6_printBands 90 = .ok (.aload_n 0, 1) := by decide +kernel
theorem dX6_printBands_91 : decode cX6_printBands 91 = .ok (.getfield 12, 3) := by decide +kernel
theorem dX6_printBands_94 : decode cX6_printBands 94 = .ok (.getfield 120, 3) := by decide +kernel
theorem dX6_printBands_97 : decode cX6_printBands 97 = .ok (.iload 5, 2) := by decide +kernel
theorem dX6_printBands_99 : decode cX6_printBands 99 = .ok (.invokevirtual 154, 3) := by decide +kernel
theorem dX6_printBands_102 : decode cX6_printBands 102 = .ok (.i2l, 1) := by decide +kernel
theorem dX6_printBands_103 : decode cX6_printBands 103 = .ok (.ladd, 1) := by decide +kernel
theorem dX6_printBands_104 : decode cX6_printBands 104 = .ok (.lstore_n 3, 1) := by decide +kernel
theorem dX6_printBands_105 : decode cX6_printBands 105 = .ok (.iinc 5 1, 3) := by decide +kernel
theorem dX6_printBands_108 : decode cX6_printBands 108 = .ok (.goto (-103), 3) := by decide +kernel
theorem dX6_printBands_111 : decode cX6_printBands 111 = .ok (.lload_n 3, 1) := by decide +kernel
theorem dX6_printBands_112 : decode cX6_printBands 112 = .ok (.lreturn, 1) := by decide +kernel
set_option maxRecDepth 20000 in
theorem ggX6_printParcels_X6_parcels : GoodIn wsX6_printParcels wsX6_parcels := goodIn_r _ [8, 2, 3, 9, 41, 42, 43, 44, 45, 46, 47, 48, 49, 50, 51, 52, 53, 54, 55, 56, 57, 58] (by decide +kernel) (by decide +kernel)
set_option maxRecDepth 20000 in
theorem gX6_printParcels_X6_parcels : GoodIn wsX6_printParcels (wsV RX6 292 RX6 yX6_parcels wsX6_parcels) := goodIn_app (goodIn_of _ (by decide +kernel)) ggX6_printParcels_X6_parcels
set_option maxRecDepth 20000 in
theorem ggX6_printParcels_X6_parcel : GoodIn wsX6_printParcels wsX6_parcel := goodIn_r _ [13, 2, 3, 14, 15, 16, 17, 18, 19, 20, 21, 22, 7, 23, 24, 25, 26, 27, 28, 9, 29, 30, 31, 32, 33, 34, 35, 36, 41, 42, 43, 44, 45, 46, 47, 48, 49, 50, 51, 52, 53, 54, 55, 56, 57, 58] (by decide +kernel) (by decide +kernel)
set_option maxRecDepth 20000 in
theorem gX6_printParcels_X6_parcel : GoodIn wsX6_printParcels (wsV RX6 294 RX6 yX6_parcel wsX6_parcel) := goodIn_app (goodIn_of _ (by decide +kernel)) ggX6_printParcels_X6_parcel
set_option maxRecDepth 20000 in
theorem ggX6_printParcels_X5_cell : GoodIn wsX6_printParcels wsX5_cell := goodIn_r _ [33, 34, 35, 36, 55, 56, 57, 58] (by decide +kernel) (by decide +kernel)
set_option maxRecDepth 20000 in
theorem gX6_printParcels_X5_cell : GoodIn wsX6_printParcels (wsV RX6 216 RX5 yX5_cell wsX5_cell) := goodIn_app (goodIn_of _ (by decide +kernel)) ggX6_printParcels_X5_cell
set_option maxRecDepth 20000 in
theorem ggX6_printParcels_X6_why : GoodIn wsX6_printParcels wsX6_why := goodIn_r _ [40, 2, 3, 14, 29, 15, 16, 17, 18, 19, 20, 30, 31, 32, 33, 34, 35, 36, 41, 42, 43, 44, 45, 46, 47, 48, 49, 50, 51, 52, 53, 54, 55, 56, 57, 58] (by decide +kernel) (by decide +kernel)
set_option maxRecDepth 20000 in
theorem gX6_printParcels_X6_why : GoodIn wsX6_printParcels (wsV RX6 297 RX6 yX6_why wsX6_why) := goodIn_app (goodIn_of _ (by decide +kernel)) ggX6_printParcels_X6_why
theorem dX6_printParcels_0 : decode cX6_printParcels 0 = .ok (.aload_n 0, 1) := by decide +kernel
theorem dX6_printParcels_1 : decode cX6_printParcels 1 = .ok (.invokevirtual 292, 3) := by decide +kernel
theorem dX6_printParcels_4 : decode cX6_printParcels 4 = .ok (.istore_n 3, 1) := by decide +kernel
theorem dX6_printParcels_5 : decode cX6_printParcels 5 = .ok (.ldc2_w 267, 3) := by decide +kernel
theorem dX6_printParcels_8 : decode cX6_printParcels 8 = .ok (.lload_n 1, 1) := by decide +kernel
theorem dX6_printParcels_9 : decode cX6_printParcels 9 = .ok (.lmul, 1) := by decide +kernel
theorem dX6_printParcels_10 : decode cX6_printParcels 10 = .ok (.iload_n 3, 1) := by decide +kernel
theorem dX6_printParcels_11 : decode cX6_printParcels 11 = .ok (.i2l, 1) := by decide +kernel
theorem dX6_printParcels_12 : decode cX6_printParcels 12 = .ok (.ladd, 1) := by decide +kernel
theorem dX6_printParcels_13 : decode cX6_printParcels 13 = .ok (.lstore 4, 2) := by decide +kernel
theorem dX6_printParcels_15 : decode cX6_printParcels 15 = .ok (.iconst 0, 1) := by decide +kernel
theorem dX6_printParcels_16 : decode cX6_printParcels 16 = .ok (.istore 6, 2) := by decide +kernel
theorem dX6_printParcels_18 : decode cX6_printParcels 18 = .ok (.iload 6, 2) := by decide +kernel
theorem dX6_printParcels_20 : decode cX6_printParcels 20 = .ok (.iload_n 3, 1) := by decide +kernel
theorem dX6_printParcels_21 : decode cX6_printParcels 21 = .ok (.if_icmp .ge 93, 3) := by decide +kernel
theorem dX6_printParcels_24 : decode cX6_printParcels 24 = .ok (.iconst 0, 1) := by decide +kernel
theorem dX6_printParcels_25 : decode cX6_printParcels 25 = .ok (.istore 7, 2) := by decide +kernel
theorem dX6_printParcels_27 : decode cX6_printParcels 27 = .ok (.iload 7, 2) := by decide +kernel
theorem dX6_printParcels_29 : decode cX6_printParcels 29 = .ok (.bipush 10, 2) := by decide +kernel
theorem dX6_printParcels_31 : decode cX6_printParcels 31 = .ok (.if_icmp .gt 27, 3) := by decide +kernel
theorem dX6_printParcels_34 : decode cX6_printParcels 34 = .ok (.ldc2_w 267, 3) := by decide +kernel
theorem dX6_printParcels_37 : decode cX6_printParcels 37 = .ok (.lload 4, 2) := by decide +kernel
theorem dX6_printParcels_39 : decode cX6_printParcels 39 = .ok (.lmul, 1) := by decide +kernel
theorem dX6_printParcels_40 : decode cX6_printParcels 40 = .ok (.aload_n 0, 1) := by decide +kernel
theorem dX6_printParcels_41 : decode cX6_printParcels 41 = .ok (.iload 6, 2) := by decide +kernel
theorem dX6_printParcels_43 : decode cX6_printParcels 43 = .ok (.iload 7, 2) := by decide +kernel
theorem dX6_printParcels_45 : decode cX6_printParcels 45 = .ok (.invokevirtual 294, 3) := by decide +kernel
theorem dX6_printParcels_48 : decode cX6_printParcels 48 = .ok (.i2l, 1) := by decide +kernel
theorem dX6_printParcels_49 : decode cX6_printParcels 49 = .ok (.ladd, 1) := by decide +kernel
theorem dX6_printParcels_50 : decode cX6_printParcels 50 = .ok (.lstore 4, 2) := by decide +kernel
theorem dX6_printParcels_52 : decode cX6_printParcels 52 = .ok (.iinc 7 1, 3) := by decide +kernel
theorem dX6_printParcels_55 : decode cX6_printParcels 55 = .ok (.goto (-28), 3) := by decide +kernel
theorem dX6_printParcels_58 : decode cX6_printParcels 58 = .ok (.aload_n 0, 1) := by decide +kernel
theorem dX6_printParcels_59 : decode cX6_printParcels 59 = .ok (.getfield 12, 3) := by decide +kernel
theorem dX6_printParcels_62 : decode cX6_printParcels 62 = .ok (.getfield 194, 3) := by decide +kernel
theorem dX6_printParcels_65 : decode cX6_printParcels 65 = .ok (.iload 6, 2) := by decide +kernel
theorem dX6_printParcels_67 : decode cX6_printParcels 67 = .ok (.bipush 11, 2) := by decide +kernel
theorem dX6_printParcels_69 : decode cX6_printParcels 69 = .ok (.invokevirtual 216, 3) := by decide +kernel
theorem dX6_printParcels_72 : decode cX6_printParcels 72 = .ok (.istore 7, 2) := by decide +kernel
theorem dX6_printParcels_74 : decode cX6_printParcels 74 = .ok (.iconst 0, 1) := by decide +kernel
theorem dX6_printParcels_75 : decode cX6_printParcels 75 = .ok (.istore 8, 2) := by decide +kernel
theorem dX6_printParcels_77 : decode cX6_printParcels 77 = .ok (.iload 8, 2) := by decide +kernel
theorem dX6_printParcels_79 : decode cX6_printParcels 79 = .ok (.iload 7, 2) := by decide +kernel
theorem dX6_printParcels_81 : decode cX6_printParcels 81 = .ok (.if_icmp .ge 27, 3) := by decide +kernel
theorem dX6_printParcels_84 : decode cX6_printParcels 84 = .ok (.ldc2_w 267, 3) := by decide +kernel
theorem dX6_printParcels_87 : decode cX6_printParcels 87 = .ok (.lload 4, 2) := by decide +kernel
theorem dX6_printParcels_89 : decode cX6_printParcels 89 = .ok (.lmul, 1) := by decide +kernel
theorem dX6_printParcels_90 : decode cX6_printParcels 90 = .ok (.aload_n 0, 1) := by decide +kernel
theorem dX6_printParcels_91 : decode cX6_printParcels 91 = .ok (.iload 6, 2) := by decide +kernel
theorem dX6_printParcels_93 : decode cX6_printParcels 93 = .ok (.iload 8, 2) := by decide +kernel
theorem dX6_printParcels_95 : decode cX6_printParcels 95 = .ok (.invokevirtual 297, 3) := by decide +kernel
theorem dX6_printParcels_98 : decode cX6_printParcels 98 = .ok (.i2l, 1) := by decide +kernel
theorem dX6_printParcels_99 : decode cX6_printParcels 99 = .ok (.ladd, 1) := by decide +kernel
theorem dX6_printParcels_100 : decode cX6_printParcels 100 = .ok (.lstore 4, 2) := by decide +kernel
theorem dX6_printParcels_102 : decode cX6_printParcels 102 = .ok (.iinc 8 1, 3) := by decide +kernel
theorem dX6_printParcels_105 : decode cX6_printParcels 105 = .ok (.goto (-28), 3) := by decide +kernel
theorem dX6_printParcels_108 : decode cX6_printParcels 108 = .ok (.iinc 6 1, 3) := by decide +kernel
theorem dX6_printParcels_111 : decode cX6_printParcels 111 = .ok (.goto (-93), 3) := by decide +kernel
theorem dX6_printParcels_114 : decode cX6_printParcels 114 = .ok (.lload 4, 2) := by decide +kernel
theorem dX6_printParcels_116 : decode cX6_printParcels 116 = .ok (.lreturn, 1) := by decide +kernel
set_option maxRecDepth 20000 in
theorem ggX6_printNotes_X6_notes : GoodIn wsX6_printNotes wsX6_notes := goodIn_r _ [6, 7, 8, 9, 31, 32, 33, 34, 35, 36, 37, 38, 39, 40, 41, 42, 43, 44, 45, 46, 47, 48] (by decide +kernel) (by decide +kernel)
set_option maxRecDepth 20000 in
theorem gX6_printNotes_X6_notes : GoodIn wsX6_printNotes (wsV RX6 300 RX6 yX6_notes wsX6_notes) := goodIn_app (goodIn_of _ (by decide +kernel)) ggX6_printNotes_X6_notes
set_option maxRecDepth 20000 in
theorem ggX6_printNotes_X6_note : GoodIn wsX6_printNotes wsX6_note := goodIn_r _ [13, 7, 8, 14, 15, 16, 17, 18, 19, 20, 21, 22, 5, 23, 24, 25, 26, 27, 28, 29, 30, 31, 32, 33, 34, 35, 36, 37, 38, 39, 40, 41, 42, 43, 44, 45, 46, 47, 48] (by decide +kernel) (by decide +kernel)
set_option maxRecDepth 20000 in
theorem gX6_printNotes_X6_note : GoodIn wsX6_printNotes (wsV RX6 302 RX6 yX6_note wsX6_note) := goodIn_app (goodIn_of _ (by decide +kernel)) ggX6_printNotes_X6_note
theorem dX6_printNotes_0 : decode cX6_printNotes 0 = .ok (.aload_n 0, 1) := by decide +kernel
theorem dX6_printNotes_1 : decode cX6_printNotes 1 = .ok (.invokevirtual 300, 3) := by decide +kernel
theorem dX6_printNotes_4 : decode cX6_printNotes 4 = .ok (.istore_n 3, 1) := by decide +kernel
theorem dX6_printNotes_5 : decode cX6_printNotes 5 = .ok (.ldc2_w 267, 3) := by decide +kernel
theorem dX6_printNotes_8 : decode cX6_printNotes 8 = .ok (.lload_n 1, 1) := by decide +kernel
theorem dX6_printNotes_9 : decode cX6_printNotes 9 = .ok (.lmul, 1) := by decide +kernel
theorem dX6_printNotes_10 : decode cX6_printNotes 10 = .ok (.iload_n 3, 1) := by decide +kernel
theorem dX6_printNotes_11 : decode cX6_printNotes 11 = .ok (.i2l, 1) := by decide +kernel
theorem dX6_printNotes_12 : decode cX6_printNotes 12 = .ok (.ladd, 1) := by decide +kernel
theorem dX6_printNotes_13 : decode cX6_printNotes 13 = .ok (.lstore 4, 2) := by decide +kernel
theorem dX6_printNotes_15 : decode cX6_printNotes 15 = .ok (.iconst 0, 1) := by decide +kernel
theorem dX6_printNotes_16 : decode cX6_printNotes 16 = .ok (.istore 6, 2) := by decide +kernel
theorem dX6_printNotes_18 : decode cX6_printNotes 18 = .ok (.iload 6, 2) := by decide +kernel
theorem dX6_printNotes_20 : decode cX6_printNotes 20 = .ok (.iload_n 3, 1) := by decide +kernel
theorem dX6_printNotes_21 : decode cX6_printNotes 21 = .ok (.if_icmp .ge 43, 3) := by decide +kernel
theorem dX6_printNotes_24 : decode cX6_printNotes 24 = .ok (.iconst 0, 1) := by decide +kernel
theorem dX6_printNotes_25 : decode cX6_printNotes 25 = .ok (.istore 7, 2) := by decide +kernel
theorem dX6_printNotes_27 : decode cX6_printNotes 27 = .ok (.iload 7, 2) := by decide +kernel
theorem dX6_printNotes_29 : decode cX6_printNotes 29 = .ok (.bipush 6, 2) := by decide +kernel
theorem dX6_printNotes_31 : decode cX6_printNotes 31 = .ok (.if_icmp .ge 27, 3) := by decide +kernel
theorem dX6_printNotes_34 : decode cX6_printNotes 34 = .ok (.ldc2_w 267, 3) := by decide +kernel
theorem dX6_printNotes_37 : decode cX6_printNotes 37 = .ok (.lload 4, 2) := by decide +kernel
theorem dX6_printNotes_39 : decode cX6_printNotes 39 = .ok (.lmul, 1) := by decide +kernel
theorem dX6_printNotes_40 : decode cX6_printNotes 40 = .ok (.aload_n 0, 1) := by decide +kernel
theorem dX6_printNotes_41 : decode cX6_printNotes 41 = .ok (.iload 6, 2) := by decide +kernel
theorem dX6_printNotes_43 : decode cX6_printNotes 43 = .ok (.iload 7, 2) := by decide +kernel
theorem dX6_printNotes_45 : decode cX6_printNotes 45 = .ok (.invokevirtual 302, 3) := by decide +kernel
theorem dX6_printNotes_48 : decode cX6_printNotes 48 = .ok (.i2l, 1) := by decide +kernel
theorem dX6_printNotes_49 : decode cX6_printNotes 49 = .ok (.ladd, 1) := by decide +kernel
theorem dX6_printNotes_50 : decode cX6_printNotes 50 = .ok (.lstore 4, 2) := by decide +kernel
theorem dX6_printNotes_52 : decode cX6_printNotes 52 = .ok (.iinc 7 1, 3) := by decide +kernel
theorem dX6_printNotes_55 : decode cX6_printNotes 55 = .ok (.goto (-28), 3) := by decide +kernel
theorem dX6_printNotes_58 : decode cX6_printNotes 58 = .ok (.iinc 6 1, 3) := by decide +kernel
theorem dX6_printNotes_61 : decode cX6_printNotes 61 = .ok (.goto (-43), 3) := by decide +kernel
theorem dX6_printNotes_64 : decode cX6_printNotes 64 = .ok (.lload 4, 2) := by decide +kernel
theorem dX6_printNotes_66 : decode cX6_printNotes 66 = .ok (.lreturn, 1) := by decide +kernel
set_option maxRecDepth 20000 in
theorem ggX6_remember_X4_copyFrom : GoodIn wsX6_remember wsX4_copyFrom := goodIn_r _ [9, 10, 11, 12, 13, 14, 15, 16, 17, 18, 19, 20, 21, 22, 23, 24, 25, 26, 27, 28, 29, 30, 31, 32, 33, 34, 35, 36, 37, 38, 39, 40, 41, 42, 43, 44, 45, 46, 47, 48, 49, 50, 51, 52, 53, 54, 55, 56, 57, 58, 59, 60, 61, 62, 63, 64, 65, 66, 67, 68, 69, 70, 71, 72, 73, 74, 75, 76, 77, 78, 79, 80, 81, 82, 83, 84, 85, 86, 87, 88, 89, 90, 91, 92, 93, 94, 95, 96, 97, 98, 107, 108, 109, 110, 111, 112, 113, 114, 115, 116, 117, 118, 119, 120, 121, 122, 123, 124, 125, 126, 127, 128, 129, 130, 131, 132] (by decide +kernel) (by decide +kernel)
set_option maxRecDepth 20000 in
theorem gX6_remember_X4_copyFrom : GoodIn wsX6_remember (wsV RX6 261 RX4 yX4_copyFrom wsX4_copyFrom) := goodIn_app (goodIn_of _ (by decide +kernel)) ggX6_remember_X4_copyFrom
theorem dX6_remember_0 : decode cX6_remember 0 = .ok (.aload_n 0, 1) := by decide +kernel
theorem dX6_remember_1 : decode cX6_remember 1 = .ok (.getfield 258, 3) := by decide +kernel
theorem dX6_remember_4 : decode cX6_remember 4 = .ok (.ifCond .lt 43, 3) := by decide +kernel
theorem dX6_remember_7 : decode cX6_remember 7 = .ok (.aload_n 0, 1) := by decide +kernel
theorem dX6_remember_8 : decode cX6_remember 8 = .ok (.getfield 258, 3) := by decide +kernel
theorem dX6_remember_11 : decode cX6_remember 11 = .ok (.aload_n 0, 1) := by decide +kernel
theorem dX6_remember_12 : decode cX6_remember 12 = .ok (.getfield 16, 3) := by decide +kernel
theorem dX6_remember_15 : decode cX6_remember 15 = .ok (.arraylength, 1) := by decide +kernel
theorem dX6_remember_16 : decode cX6_remember 16 = .ok (.if_icmp .ge 31, 3) := by decide +kernel
theorem dX6_remember_19 : decode cX6_remember 19 = .ok (.aload_n 0, 1) := by decide +kernel
theorem dX6_remember_20 : decode cX6_remember 20 = .ok (.getfield 16, 3) := by decide +kernel
theorem dX6_remember_23 : decode cX6_remember 23 = .ok (.aload_n 0, 1) := by decide +kernel
theorem dX6_remember_24 : decode cX6_remember 24 = .ok (.getfield 258, 3) := by decide +kernel
theorem dX6_remember_27 : decode cX6_remember 27 = .ok (.aaload, 1) := by decide +kernel
theorem dX6_remember_28 : decode cX6_remember 28 = .ok (.ifnull 19, 3) := by decide +kernel
theorem dX6_remember_31 : decode cX6_remember 31 = .ok (.aload_n 0, 1) := by decide +kernel
theorem dX6_remember_32 : decode cX6_remember 32 = .ok (.getfield 16, 3) := by decide +kernel
theorem dX6_remember_35 : decode cX6_remember 35 = .ok (.aload_n 0, 1) := by decide +kernel
theorem dX6_remember_36 : decode cX6_remember 36 = .ok (.getfield 258, 3) := by decide +kernel
theorem dX6_remember_39 : decode cX6_remember 39 = .ok (.aaload, 1) := by decide +kernel
theorem dX6_remember_40 : decode cX6_remember 40 = .ok (.aload_n 0, 1) := by decide +kernel
theorem dX6_remember_41 : decode cX6_remember 41 = .ok (.getfield 12, 3) := by decide +kernel
theorem dX6_remember_44 : decode cX6_remember 44 = .ok (.invokevirtual 261, 3) := by decide +kernel
theorem dX6_remember_47 : decode cX6_remember 47 = .ok (.aload_n 0, 1) := by decide +kernel
theorem dX6_remember_48 : decode cX6_remember 48 = .ok (.aload_n 0, 1) := by decide +kernel
theorem dX6_remember_49 : decode cX6_remember 49 = .ok (.getfield 258, 3) := by decide +kernel
theorem dX6_remember_52 : decode cX6_remember 52 = .ok (.iconst 1, 1) := by decide +kernel
theorem dX6_remember_53 : decode cX6_remember 53 = .ok (.iadd, 1) := by decide +kernel
theorem dX6_remember_54 : decode cX6_remember 54 = .ok (.iconst 4, 1) := by decide +kernel
theorem dX6_remember_55 : decode cX6_remember 55 = .ok (.if_icmp .ge 12, 3) := by decide +kernel
theorem dX6_remember_58 : decode cX6_remember 58 = .ok (.aload_n 0, 1) := by decide +kernel
theorem dX6_remember_59 : decode cX6_remember 59 = .ok (.getfield 258, 3) := by decide +kernel
theorem dX6_remember_62 : decode cX6_remember 62 = .ok (.iconst 1, 1) := by decide +kernel
theorem dX6_remember_63 : decode cX6_remember 63 = .ok (.iadd, 1) := by decide +kernel
theorem dX6_remember_64 : decode cX6_remember 64 = .ok (.goto 4, 3) := by decide +kernel
theorem dX6_remember_67 : decode cX6_remember 67 = .ok (.iconst 0, 1) := by decide +kernel
theorem dX6_remember_68 : decode cX6_remember 68 = .ok (.putfield 258, 3) := by decide +kernel
theorem dX6_remember_71 : decode cX6_remember 71 = .ok (.aload_n 0, 1) := by decide +kernel
theorem dX6_remember_72 : decode cX6_remember 72 = .ok (.getfield 255, 3) := by decide +kernel
theorem dX6_remember_75 : decode cX6_remember 75 = .ok (.iconst 4, 1) := by decide +kernel
theorem dX6_remember_76 : decode cX6_remember 76 = .ok (.if_icmp .ge 13, 3) := by decide +kernel
theorem dX6_remember_79 : decode cX6_remember 79 = .ok (.aload_n 0, 1) := by decide +kernel
theorem dX6_remember_80 : decode cX6_remember 80 = .ok (.dup, 1) := by decide +kernel
theorem dX6_remember_81 : decode cX6_remember 81 = .ok (.getfield 255, 3) := by decide +kernel
theorem dX6_remember_84 : decode cX6_remember 84 = .ok (.iconst 1, 1) := by decide +kernel
theorem dX6_remember_85 : decode cX6_remember 85 = .ok (.iadd, 1) := by decide +kernel
theorem dX6_remember_86 : decode cX6_remember 86 = .ok (.putfield 255, 3) := by decide +kernel
theorem dX6_remember_89 : decode cX6_remember 89 = .ok (.return_, 1) := by decide +kernel
set_option maxRecDepth 20000 in
theorem ggX6_readBuffer_X1_start : GoodIn wsX6_readBuffer wsX1_start := goodIn_r _ [8, 9, 10, 11, 155, 156, 157, 158, 159, 160, 161, 162, 163] (by decide +kernel) (by decide +kernel)
set_option maxRecDepth 20000 in
theorem gX6_readBuffer_X1_start : GoodIn wsX6_readBuffer (wsV RX6 305 RX1 yX1_start wsX1_start) := goodIn_app (goodIn_of _ (by decide +kernel)) ggX6_readBuffer_X1_start
set_option maxRecDepth 20000 in
theorem ggX6_readBuffer_X1_accepts : GoodIn wsX6_readBuffer wsX1_accepts := goodIn_r _ [15, 10, 16, 17, 18, 7, 19, 11, 20, 21, 22, 23, 24, 9, 25, 26, 27, 28, 29, 30, 31, 32, 33, 34, 35, 36, 37, 38, 39, 40, 41, 42, 43, 44, 45, 46, 47, 48, 49, 50, 51, 52, 53, 54, 55, 56, 57, 58, 59, 60, 61, 62, 63, 64, 65, 66, 67, 68, 69, 70, 71, 72, 73, 74, 75, 76, 77, 78, 79, 80, 81, 82, 83, 84, 85, 86, 87, 88, 89, 90, 91, 92, 93, 94, 95, 96, 97, 98, 99, 100, 101, 102, 103, 104, 105, 106, 107, 108, 109, 110, 111, 112, 113, 114, 115, 116, 117, 118, 119, 120, 121, 122, 123, 124, 125, 126, 127, 128, 129, 130, 131, 132, 133, 134, 135, 136, 137, 138, 139, 140, 141, 142, 143, 144, 145, 146, 155, 156, 157, 158, 159, 160, 161, 162, 163] (by decide +kernel) (by decide +kernel)
set_option maxRecDepth 20000 in
theorem gX6_readBuffer_X1_accepts : GoodIn wsX6_readBuffer (wsV RX6 308 RX1 yX1_accepts wsX1_accepts) := goodIn_app (goodIn_of _ (by decide +kernel)) ggX6_readBuffer_X1_accepts
theorem dX6_readBuffer_0 : decode cX6_readBuffer 0 = .ok (.aload_n 0, 1) := by decide +kernel
theorem dX6_readBuffer_1 : decode cX6_readBuffer 1 = .ok (.getfield 27, 3) := by decide +kernel
theorem dX6_readBuffer_4 : decode cX6_readBuffer 4 = .ok (.invokevirtual 305, 3) := by decide +kernel
theorem dX6_readBuffer_7 : decode cX6_readBuffer 7 = .ok (.iconst 0, 1) := by decide +kernel
theorem dX6_readBuffer_8 : decode cX6_readBuffer 8 = .ok (.istore_n 1, 1) := by decide +kernel
theorem dX6_readBuffer_9 : decode cX6_readBuffer 9 = .ok (.iload_n 1, 1) := by decide +kernel
theorem dX6_readBuffer_10 : decode cX6_readBuffer 10 = .ok (.aload_n 0, 1) := by decide +kernel
theorem dX6_readBuffer_11 : decode cX6_readBuffer 11 = .ok (.getfield 160, 3) := by decide +kernel
theorem dX6_readBuffer_14 : decode cX6_readBuffer 14 = .ok (.if_icmp .ge 36, 3) := by decide +kernel
theorem dX6_readBuffer_17 : decode cX6_readBuffer 17 = .ok (.iload_n 1, 1) := by decide +kernel
theorem dX6_readBuffer_18 : decode cX6_readBuffer 18 = .ok (.aload_n 0, 1) := by decide +kernel
theorem dX6_readBuffer_19 : decode cX6_readBuffer 19 = .ok (.getfield 20, 3) := by decide +kernel
theorem dX6_readBuffer_22 : decode cX6_readBuffer 22 = .ok (.arraylength, 1) := by decide +kernel
theorem dX6_readBuffer_23 : decode cX6_readBuffer 23 = .ok (.if_icmp .ge 27, 3) := by decide +kernel
theorem dX6_readBuffer_26 : decode cX6_readBuffer 26 = .ok (.aload_n 0, 1) := by decide +kernel
theorem dX6_readBuffer_27 : decode cX6_readBuffer 27 = .ok (.getfield 27, 3) := by decide +kernel
theorem dX6_readBuffer_30 : decode cX6_readBuffer 30 = .ok (.aload_n 0, 1) := by decide +kernel
theorem dX6_readBuffer_31 : decode cX6_readBuffer 31 = .ok (.getfield 20, 3) := by decide +kernel
theorem dX6_readBuffer_34 : decode cX6_readBuffer 34 = .ok (.iload_n 1, 1) := by decide +kernel
theorem dX6_readBuffer_35 : decode cX6_readBuffer 35 = .ok (.iaload, 1) := by decide +kernel
theorem dX6_readBuffer_36 : decode cX6_readBuffer 36 = .ok (.invokevirtual 308, 3) := by decide +kernel
theorem dX6_readBuffer_39 : decode cX6_readBuffer 39 = .ok (.ifCond .ne 5, 3) := by decide +kernel
theorem dX6_readBuffer_42 : decode cX6_readBuffer 42 = .ok (.iload_n 1, 1) := by decide +kernel
theorem dX6_readBuffer_43 : decode cX6_readBuffer 43 = .ok (.ireturn, 1) := by decide +kernel
theorem dX6_readBuffer_44 : decode cX6_readBuffer 44 = .ok (.iinc 1 1, 3) := by decide +kernel
theorem dX6_readBuffer_47 : decode cX6_readBuffer 47 = .ok (.goto (-38), 3) := by decide +kernel
theorem dX6_readBuffer_50 : decode cX6_readBuffer 50 = .ok (.aload_n 0, 1) := by decide +kernel
theorem dX6_readBuffer_51 : decode cX6_readBuffer 51 = .ok (.getfield 160, 3) := by decide +kernel
theorem dX6_readBuffer_54 : decode cX6_readBuffer 54 = .ok (.ireturn, 1) := by decide +kernel
set_option maxRecDepth 20000 in
theorem ggX6_trialCharge_X4_price : GoodIn wsX6_trialCharge wsX4_price := goodIn_r _ [7, 8, 9, 10, 11, 12, 13, 14, 15, 16, 17, 18, 19, 20, 21, 22, 23, 24, 25, 26, 27, 28, 29, 30, 31, 32, 33, 34, 35, 36, 37, 38, 39, 40, 41, 6, 42, 43, 44, 45, 46, 47, 48, 49, 50, 51, 52, 53, 54, 55, 56, 57, 58, 59, 60, 61, 62, 63, 64, 65, 66, 67, 68, 69, 70, 71, 72, 73, 74, 75, 76, 77, 78, 79, 80, 81, 82, 83, 84, 85, 86, 87, 88, 89, 90, 91, 92, 93, 94, 95, 96, 97, 98, 99, 100, 101, 102, 103, 104, 105, 106, 107, 108, 109, 110, 111, 112, 113, 114, 115, 116, 117, 118, 119, 120, 121, 122, 123, 124, 125, 126, 135, 136, 137, 138, 139, 140, 141, 142, 143, 144, 145, 146, 147, 148, 149, 150, 151, 152, 153, 154, 155, 156, 157, 158, 159, 160] (by decide +kernel) (by decide +kernel)
set_option maxRecDepth 20000 in
theorem gX6_trialCharge_X4_price : GoodIn wsX6_trialCharge (wsV RX6 203 RX4 yX4_price wsX4_price) := goodIn_app (goodIn_of _ (by decide +kernel)) ggX6_trialCharge_X4_price
set_option maxRecDepth 20000 in
theorem ggX6_trialCharge_X5_cell : GoodIn wsX6_trialCharge wsX5_cell := goodIn_r _ [20, 21, 22, 23, 141, 142, 143, 144] (by decide +kernel) (by decide +kernel)
set_option maxRecDepth 20000 in
theorem gX6_trialCharge_X5_cell : GoodIn wsX6_trialCharge (wsV RX6 216 RX5 yX5_cell wsX5_cell) := goodIn_app (goodIn_of _ (by decide +kernel)) ggX6_trialCharge_X5_cell
theorem dX6_trialCharge_0 : decode cX6_trialCharge 0 = .ok (.aload_n 0, 1) := by decide +kernel
theorem dX6_trialCharge_1 : decode cX6_trialCharge 1 = .ok (.getfield 12, 3) := by decide +kernel
theorem dX6_trialCharge_4 : decode cX6_trialCharge 4 = .ok (.aload_n 0, 1) := by decide +kernel
theorem dX6_trialCharge_5 : decode cX6_trialCharge 5 = .ok (.getfield 36, 3) := by decide +kernel
theorem dX6_trialCharge_8 : decode cX6_trialCharge 8 = .ok (.iconst 0, 1) := by decide +kernel
theorem dX6_trialCharge_9 : decode cX6_trialCharge 9 = .ok (.invokevirtual 203, 3) := by decide +kernel
theorem dX6_trialCharge_12 : decode cX6_trialCharge 12 = .ok (.aload_n 0, 1) := by decide +kernel
theorem dX6_trialCharge_13 : decode cX6_trialCharge 13 = .ok (.getfield 36, 3) := by decide +kernel
theorem dX6_trialCharge_16 : decode cX6_trialCharge 16 = .ok (.iconst 0, 1) := by decide +kernel
theorem dX6_trialCharge_17 : decode cX6_trialCharge 17 = .ok (.bipush 8, 2) := by decide +kernel
theorem dX6_trialCharge_19 : decode cX6_trialCharge 19 = .ok (.invokevirtual 216, 3) := by decide +kernel
theorem dX6_trialCharge_22 : decode cX6_trialCharge 22 = .ok (.ireturn, 1) := by decide +kernel
set_option maxRecDepth 20000 in
theorem ggX6_hasBands_X0_bandsOf : GoodIn wsX6_hasBands wsX0_bandsOf := goodIn_r _ [7, 8, 9, 10, 11, 26, 27, 28, 29] (by decide +kernel) (by decide +kernel)
set_option maxRecDepth 20000 in
theorem gX6_hasBands_X0_bandsOf : GoodIn wsX6_hasBands (wsV RX6 137 RX0 yX0_bandsOf wsX0_bandsOf) := goodIn_app (goodIn_of _ (by decide +kernel)) ggX6_hasBands_X0_bandsOf
theorem dX6_hasBands_0 : decode cX6_hasBands 0 = .ok (.aload_n 0, 1) := by decide +kernel
theorem dX6_hasBands_1 : decode cX6_hasBands 1 = .ok (.getfield 12, 3) := by decide +kernel
theorem dX6_hasBands_4 : decode cX6_hasBands 4 = .ok (.getfield 120, 3) := by decide +kernel
theorem dX6_hasBands_7 : decode cX6_hasBands 7 = .ok (.iload_n 1, 1) := by decide +kernel
theorem dX6_hasBands_8 : decode cX6_hasBands 8 = .ok (.invokevirtual 137, 3) := by decide +kernel
theorem dX6_hasBands_11 : decode cX6_hasBands 11 = .ok (.ifCond .le 7, 3) := by decide +kernel
theorem dX6_hasBands_14 : decode cX6_hasBands 14 = .ok (.iconst 1, 1) := by decide +kernel
theorem dX6_hasBands_15 : decode cX6_hasBands 15 = .ok (.goto 4, 3) := by decide +kernel
theorem dX6_hasBands_18 : decode cX6_hasBands 18 = .ok (.iconst 0, 1) := by decide +kernel
theorem dX6_hasBands_19 : decode cX6_hasBands 19 = .ok (.ireturn, 1) := by decide +kernel
set_option maxRecDepth 20000 in
theorem ggX6_openNote_X5_cell : GoodIn wsX6_openNote wsX5_cell := goodIn_r _ [9, 10, 11, 12, 27, 28, 29, 30] (by decide +kernel) (by decide +kernel)
set_option maxRecDepth 20000 in
theorem gX6_openNote_X5_cell : GoodIn wsX6_openNote (wsV RX6 216 RX5 yX5_cell wsX5_cell) := goodIn_app (goodIn_of _ (by decide +kernel)) ggX6_openNote_X5_cell
theorem dX6_openNote_0 : decode cX6_openNote 0 = .ok (.iconst 0, 1) := by decide +kernel
theorem dX6_openNote_1 : decode cX6_openNote 1 = .ok (.istore_n 2, 1) := by decide +kernel
theorem dX6_openNote_2 : decode cX6_openNote 2 = .ok (.iload_n 2, 1) := by decide +kernel
theorem dX6_openNote_3 : decode cX6_openNote 3 = .ok (.aload_n 0, 1) := by decide +kernel
theorem dX6_openNote_4 : decode cX6_openNote 4 = .ok (.getfield 12, 3) := by decide +kernel
theorem dX6_openNote_7 : decode cX6_openNote 7 = .ok (.getfield 225, 3) := by decide +kernel
theorem dX6_openNote_10 : decode cX6_openNote 10 = .ok (.getfield 197, 3) := by decide +kernel
theorem dX6_openNote_13 : decode cX6_openNote 13 = .ok (.if_icmp .ge 42, 3) := by decide +kernel
theorem dX6_openNote_16 : decode cX6_openNote 16 = .ok (.aload_n 0, 1) := by decide +kernel
theorem dX6_openNote_17 : decode cX6_openNote 17 = .ok (.getfield 12, 3) := by decide +kernel
theorem dX6_openNote_20 : decode cX6_openNote 20 = .ok (.getfield 225, 3) := by decide +kernel
theorem dX6_openNote_23 : decode cX6_openNote 23 = .ok (.iload_n 2, 1) := by decide +kernel
theorem dX6_openNote_24 : decode cX6_openNote 24 = .ok (.iconst 0, 1) := by decide +kernel
theorem dX6_openNote_25 : decode cX6_openNote 25 = .ok (.invokevirtual 216, 3) := by decide +kernel
theorem dX6_openNote_28 : decode cX6_openNote 28 = .ok (.iload_n 1, 1) := by decide +kernel
theorem dX6_openNote_29 : decode cX6_openNote 29 = .ok (.if_icmp .ne 20, 3) := by decide +kernel
theorem dX6_openNote_32 : decode cX6_openNote 32 = .ok (.aload_n 0, 1) := by decide +kernel
theorem dX6_openNote_33 : decode cX6_openNote 33 = .ok (.getfield 12, 3) := by decide +kernel
theorem dX6_openNote_36 : decode cX6_openNote 36 = .ok (.getfield 225, 3) := by decide +kernel
theorem dX6_openNote_39 : decode cX6_openNote 39 = .ok (.iload_n 2, 1) := by decide +kernel
theorem dX6_openNote_40 : decode cX6_openNote 40 = .ok (.iconst 4, 1) := by decide +kernel
theorem dX6_openNote_41 : decode cX6_openNote 41 = .ok (.invokevirtual 216, 3) := by decide +kernel
theorem dX6_openNote_44 : decode cX6_openNote 44 = .ok (.ifCond .ne 5, 3) := by decide +kernel
theorem dX6_openNote_47 : decode cX6_openNote 47 = .ok (.iload_n 2, 1) := by decide +kernel
theorem dX6_openNote_48 : decode cX6_openNote 48 = .ok (.ireturn, 1) := by decide +kernel
theorem dX6_openNote_49 : decode cX6_openNote 49 = .ok (.iinc 2 1, 3) := by decide +kernel
theorem dX6_openNote_52 : decode cX6_openNote 52 = .ok (.goto (-50), 3) := by decide +kernel
theorem dX6_openNote_55 : decode cX6_openNote 55 = .ok (.ldc 219, 2) := by decide +kernel
theorem dX6_openNote_57 : decode cX6_openNote 57 = .ok (.ireturn, 1) := by decide +kernel
set_option maxRecDepth 20000 in
theorem ggX6_writeNote_X5_addRow : GoodIn wsX6_writeNote wsX5_addRow := goodIn_r _ [9, 10, 11, 154, 155, 156, 157] (by decide +kernel) (by decide +kernel)
set_option maxRecDepth 20000 in
theorem gX6_writeNote_X5_addRow : GoodIn wsX6_writeNote (wsV RX6 40 RX5 yX5_addRow wsX5_addRow) := goodIn_app (goodIn_of _ (by decide +kernel)) ggX6_writeNote_X5_addRow
set_option maxRecDepth 20000 in
theorem ggX6_writeNote_X5_copyRow : GoodIn wsX6_writeNote wsX5_copyRow := goodIn_r _ [15, 16, 17, 18, 19, 8, 20, 11, 21, 22, 23, 24, 25, 154, 155, 156, 157] (by decide +kernel) (by decide +kernel)
set_option maxRecDepth 20000 in
theorem gX6_writeNote_X5_copyRow : GoodIn wsX6_writeNote (wsV RX6 248 RX5 yX5_copyRow wsX5_copyRow) := goodIn_app (goodIn_of _ (by decide +kernel)) ggX6_writeNote_X5_copyRow
set_option maxRecDepth 20000 in
theorem ggX6_writeNote_X5_put : GoodIn wsX6_writeNote wsX5_put := goodIn_r _ [25, 11, 16, 21, 154, 155, 156, 157] (by decide +kernel) (by decide +kernel)
set_option maxRecDepth 20000 in
theorem gX6_writeNote_X5_put : GoodIn wsX6_writeNote (wsV RX6 232 RX5 yX5_put wsX5_put) := goodIn_app (goodIn_of _ (by decide +kernel)) ggX6_writeNote_X5_put
set_option maxRecDepth 20000 in
theorem ggX6_writeNote_X4_price : GoodIn wsX6_writeNote wsX4_price := goodIn_r _ [31, 32, 33, 34, 35, 36, 37, 38, 39, 40, 18, 19, 8, 20, 11, 16, 21, 41, 42, 43, 44, 45, 46, 47, 48, 49, 50, 51, 52, 53, 23, 24, 25, 54, 55, 30, 56, 57, 58, 59, 60, 61, 26, 62, 63, 64, 65, 66, 67, 68, 69, 70, 71, 72, 73, 74, 75, 76, 77, 78, 79, 80, 81, 82, 83, 84, 85, 86, 87, 88, 89, 90, 91, 92, 93, 94, 95, 96, 97, 98, 99, 100, 101, 102, 103, 104, 105, 106, 107, 108, 109, 110, 111, 112, 113, 114, 115, 116, 117, 118, 119, 120, 121, 122, 123, 124, 125, 126, 127, 128, 129, 130, 131, 132, 133, 134, 135, 136, 137, 138, 139, 148, 149, 150, 151, 152, 153, 154, 155, 156, 157, 158, 159, 160, 161, 162, 163, 164, 165, 166, 167, 168, 169, 170, 171, 172, 173] (by decide +kernel) (by decide +kernel)
set_option maxRecDepth 20000 in
theorem gX6_writeNote_X4_price : GoodIn wsX6_writeNote (wsV RX6 203 RX4 yX4_price wsX4_price) := goodIn_app (goodIn_of _ (by decide +kernel)) ggX6_writeNote_X4_price
set_option maxRecDepth 20000 in
theorem ggX6_writeNote_X5_cell : GoodIn wsX6_writeNote wsX5_cell := goodIn_r _ [20, 11, 16, 21, 154, 155, 156, 157] (by decide +kernel) (by decide +kernel)
set_option maxRecDepth 20000 in
theorem gX6_writeNote_X5_cell : GoodIn wsX6_writeNote (wsV RX6 216 RX5 yX5_cell wsX5_cell) := goodIn_app (goodIn_of _ (by decide +kernel)) ggX6_writeNote_X5_cell
theorem dX6_writeNote_0 : decode cX6_writeNote 0 = .ok (.aload_n 0, 1) := by decide +kernel
theorem dX6_writeNote_1 : decode cX6_writeNote 1 = .ok (.getfield 12, 3) := by decide +kernel
theorem dX6_writeNote_4 : decode cX6_writeNote 4 = .ok (.getfield 225, 3) := by decide +kernel
theorem dX6_writeNote_7 : decode cX6_writeNote 7 = .ok (.invokevirtual 40, 3) := by decide +kernel
theorem dX6_writeNote_10 : decode cX6_writeNote 10 = .ok (.istore 4, 2) := by decide +kernel
theorem dX6_writeNote_12 : decode cX6_writeNote 12 = .ok (.aload_n 0, 1) := by decide +kernel
theorem dX6_writeNote_13 : decode cX6_writeNote 13 = .ok (.getfield 12, 3) := by decide +kernel
theorem dX6_writeNote_16 : decode cX6_writeNote 16 = .ok (.getfield 311, 3) := by decide +kernel
theorem dX6_writeNote_19 : decode cX6_writeNote 19 = .ok (.invokevirtual 40, 3) := by decide +kernel
theorem dX6_writeNote_22 : decode cX6_writeNote 22 = .ok (.pop, 1) := by decide +kernel
theorem dX6_writeNote_23 : decode cX6_writeNote 23 = .ok (.aload_n 0, 1) := by decide +kernel
theorem dX6_writeNote_24 : decode cX6_writeNote 24 = .ok (.getfield 12, 3) := by decide +kernel
theorem dX6_writeNote_27 : decode cX6_writeNote 27 = .ok (.getfield 311, 3) := by decide +kernel
theorem dX6_writeNote_30 : decode cX6_writeNote 30 = .ok (.iload 4, 2) := by decide +kernel
theorem dX6_writeNote_32 : decode cX6_writeNote 32 = .ok (.aload_n 0, 1) := by decide +kernel
theorem dX6_writeNote_33 : decode cX6_writeNote 33 = .ok (.getfield 12, 3) := by decide +kernel
theorem dX6_writeNote_36 : decode cX6_writeNote 36 = .ok (.getfield 194, 3) := by decide +kernel
theorem dX6_writeNote_39 : decode cX6_writeNote 39 = .ok (.iload_n 1, 1) := by decide +kernel
theorem dX6_writeNote_40 : decode cX6_writeNote 40 = .ok (.invokevirtual 248, 3) := by decide +kernel
theorem dX6_writeNote_43 : decode cX6_writeNote 43 = .ok (.aload_n 0, 1) := by decide +kernel
theorem dX6_writeNote_44 : decode cX6_writeNote 44 = .ok (.getfield 12, 3) := by decide +kernel
theorem dX6_writeNote_47 : decode cX6_writeNote 47 = .ok (.getfield 311, 3) := by decide +kernel
theorem dX6_writeNote_50 : decode cX6_writeNote 50 = .ok (.iload 4, 2) := by decide +kernel
theorem dX6_writeNote_52 : decode cX6_writeNote 52 = .ok (.iload_n 2, 1) := by decide +kernel
theorem dX6_writeNote_53 : decode cX6_writeNote 53 = .ok (.iload_n 3, 1) := by decide +kernel
theorem dX6_writeNote_54 : decode cX6_writeNote 54 = .ok (.invokevirtual 232, 3) := by decide +kernel
theorem dX6_writeNote_57 : decode cX6_writeNote 57 = .ok (.aload_n 0, 1) := by decide +kernel
theorem dX6_writeNote_58 : decode cX6_writeNote 58 = .ok (.getfield 12, 3) := by decide +kernel
theorem dX6_writeNote_61 : decode cX6_writeNote 61 = .ok (.aload_n 0, 1) := by decide +kernel
theorem dX6_writeNote_62 : decode cX6_writeNote 62 = .ok (.getfield 12, 3) := by decide +kernel
theorem dX6_writeNote_65 : decode cX6_writeNote 65 = .ok (.getfield 311, 3) := by decide +kernel
theorem dX6_writeNote_68 : decode cX6_writeNote 68 = .ok (.iload 4, 2) := by decide +kernel
theorem dX6_writeNote_70 : decode cX6_writeNote 70 = .ok (.invokevirtual 203, 3) := by decide +kernel
theorem dX6_writeNote_73 : decode cX6_writeNote 73 = .ok (.aload_n 0, 1) := by decide +kernel
theorem dX6_writeNote_74 : decode cX6_writeNote 74 = .ok (.getfield 12, 3) := by decide +kernel
theorem dX6_writeNote_77 : decode cX6_writeNote 77 = .ok (.getfield 225, 3) := by decide +kernel
theorem dX6_writeNote_80 : decode cX6_writeNote 80 = .ok (.iload 4, 2) := by decide +kernel
theorem dX6_writeNote_82 : decode cX6_writeNote 82 = .ok (.iconst 0, 1) := by decide +kernel
theorem dX6_writeNote_83 : decode cX6_writeNote 83 = .ok (.iload_n 1, 1) := by decide +kernel
theorem dX6_writeNote_84 : decode cX6_writeNote 84 = .ok (.invokevirtual 232, 3) := by decide +kernel
theorem dX6_writeNote_87 : decode cX6_writeNote 87 = .ok (.aload_n 0, 1) := by decide +kernel
theorem dX6_writeNote_88 : decode cX6_writeNote 88 = .ok (.getfield 12, 3) := by decide +kernel
theorem dX6_writeNote_91 : decode cX6_writeNote 91 = .ok (.getfield 225, 3) := by decide +kernel
theorem dX6_writeNote_94 : decode cX6_writeNote 94 = .ok (.iload 4, 2) := by decide +kernel
theorem dX6_writeNote_96 : decode cX6_writeNote 96 = .ok (.iconst 1, 1) := by decide +kernel
theorem dX6_writeNote_97 : decode cX6_writeNote 97 = .ok (.iload_n 2, 1) := by decide +kernel
theorem dX6_writeNote_98 : decode cX6_writeNote 98 = .ok (.invokevirtual 232, 3) := by decide +kernel
theorem dX6_writeNote_101 : decode cX6_writeNote 101 = .ok (.aload_n 0, 1) := by decide +kernel
theorem dX6_writeNote_102 : decode cX6_writeNote 102 = .ok (.getfield 12, 3) := by decide +kernel
theorem dX6_writeNote_105 : decode cX6_writeNote 105 = .ok (.getfield 225, 3) := by decide +kernel
theorem dX6_writeNote_108 : decode cX6_writeNote 108 = .ok (.iload 4, 2) := by decide +kernel
theorem dX6_writeNote_110 : decode cX6_writeNote 110 = .ok (.iconst 2, 1) := by decide +kernel
theorem dX6_writeNote_111 : decode cX6_writeNote 111 = .ok (.iload_n 3, 1) := by decide +kernel
theorem dX6_writeNote_112 : decode cX6_writeNote 112 = .ok (.invokevirtual 232, 3) := by decide +kernel
theorem dX6_writeNote_115 : decode cX6_writeNote 115 = .ok (.aload_n 0, 1) := by decide +kernel
theorem dX6_writeNote_116 : decode cX6_writeNote 116 = .ok (.getfield 12, 3) := by decide +kernel
theorem dX6_writeNote_119 : decode cX6_writeNote 119 = .ok (.getfield 225, 3) := by decide +kernel
theorem dX6_writeNote_122 : decode cX6_writeNote 122 = .ok (.iload 4, 2) := by decide +kernel
theorem dX6_writeNote_124 : decode cX6_writeNote 124 = .ok (.iconst 3, 1) := by decide +kernel
theorem dX6_writeNote_125 : decode cX6_writeNote 125 = .ok (.aload_n 0, 1) := by decide +kernel
theorem dX6_writeNote_126 : decode cX6_writeNote 126 = .ok (.getfield 12, 3) := by decide +kernel
theorem dX6_writeNote_129 : decode cX6_writeNote 129 = .ok (.getfield 311, 3) := by decide +kernel
theorem dX6_writeNote_132 : decode cX6_writeNote 132 = .ok (.iload 4, 2) := by decide +kernel
theorem dX6_writeNote_134 : decode cX6_writeNote 134 = .ok (.bipush 8, 2) := by decide +kernel
theorem dX6_writeNote_136 : decode cX6_writeNote 136 = .ok (.invokevirtual 216, 3) := by decide +kernel
theorem dX6_writeNote_139 : decode cX6_writeNote 139 = .ok (.invokevirtual 232, 3) := by decide +kernel
theorem dX6_writeNote_142 : decode cX6_writeNote 142 = .ok (.aload_n 0, 1) := by decide +kernel
theorem dX6_writeNote_143 : decode cX6_writeNote 143 = .ok (.getfield 12, 3) := by decide +kernel
theorem dX6_writeNote_146 : decode cX6_writeNote 146 = .ok (.getfield 225, 3) := by decide +kernel
theorem dX6_writeNote_149 : decode cX6_writeNote 149 = .ok (.iload 4, 2) := by decide +kernel
theorem dX6_writeNote_151 : decode cX6_writeNote 151 = .ok (.iconst 4, 1) := by decide +kernel
theorem dX6_writeNote_152 : decode cX6_writeNote 152 = .ok (.iconst 0, 1) := by decide +kernel
theorem dX6_writeNote_153 : decode cX6_writeNote 153 = .ok (.invokevirtual 232, 3) := by decide +kernel
theorem dX6_writeNote_156 : decode cX6_writeNote 156 = .ok (.aload_n 0, 1) := by decide +kernel
theorem dX6_writeNote_157 : decode cX6_writeNote 157 = .ok (.getfield 12, 3) := by decide +kernel
theorem dX6_writeNote_160 : decode cX6_writeNote 160 = .ok (.getfield 225, 3) := by decide +kernel
theorem dX6_writeNote_163 : decode cX6_writeNote 163 = .ok (.iload 4, 2) := by decide +kernel
theorem dX6_writeNote_165 : decode cX6_writeNote 165 = .ok (.iconst 5, 1) := by decide +kernel
theorem dX6_writeNote_166 : decode cX6_writeNote 166 = .ok (.iconst 0, 1) := by decide +kernel
theorem dX6_writeNote_167 : decode cX6_writeNote 167 = .ok (.invokevirtual 232, 3) := by decide +kernel
theorem dX6_writeNote_170 : decode cX6_writeNote 170 = .ok (.iload 4, 2) := by decide +kernel
theorem dX6_writeNote_172 : decode cX6_writeNote 172 = .ok (.ireturn, 1) := by decide +kernel
set_option maxRecDepth 20000 in
theorem ggX6_acceptNote_X5_cell : GoodIn wsX6_acceptNote wsX5_cell := goodIn_r _ [9, 10, 11, 12, 37, 38, 39, 40] (by decide +kernel) (by decide +kernel)
set_option maxRecDepth 20000 in
theorem gX6_acceptNote_X5_cell : GoodIn wsX6_acceptNote (wsV RX6 216 RX5 yX5_cell wsX5_cell) := goodIn_app (goodIn_of _ (by decide +kernel)) ggX6_acceptNote_X5_cell
set_option maxRecDepth 20000 in
theorem ggX6_acceptNote_X5_copyRow : GoodIn wsX6_acceptNote wsX5_copyRow := goodIn_r _ [16, 11, 17, 6, 7, 8, 9, 10, 12, 18, 19, 20, 21, 37, 38, 39, 40] (by decide +kernel) (by decide +kernel)
set_option maxRecDepth 20000 in
theorem gX6_acceptNote_X5_copyRow : GoodIn wsX6_acceptNote (wsV RX6 248 RX5 yX5_copyRow wsX5_copyRow) := goodIn_app (goodIn_of _ (by decide +kernel)) ggX6_acceptNote_X5_copyRow
set_option maxRecDepth 20000 in
theorem ggX6_acceptNote_X5_put : GoodIn wsX6_acceptNote wsX5_put := goodIn_r _ [21, 10, 11, 12, 37, 38, 39, 40] (by decide +kernel) (by decide +kernel)
set_option maxRecDepth 20000 in
theorem gX6_acceptNote_X5_put : GoodIn wsX6_acceptNote (wsV RX6 232 RX5 yX5_put wsX5_put) := goodIn_app (goodIn_of _ (by decide +kernel)) ggX6_acceptNote_X5_put
theorem dX6_acceptNote_0 : decode cX6_acceptNote 0 = .ok (.aload_n 0, 1) := by decide +kernel
theorem dX6_acceptNote_1 : decode cX6_acceptNote 1 = .ok (.getfield 12, 3) := by decide +kernel
theorem dX6_acceptNote_4 : decode cX6_acceptNote 4 = .ok (.getfield 225, 3) := by decide +kernel
theorem dX6_acceptNote_7 : decode cX6_acceptNote 7 = .ok (.iload_n 1, 1) := by decide +kernel
theorem dX6_acceptNote_8 : decode cX6_acceptNote 8 = .ok (.iconst 0, 1) := by decide +kernel
theorem dX6_acceptNote_9 : decode cX6_acceptNote 9 = .ok (.invokevirtual 216, 3) := by decide +kernel
theorem dX6_acceptNote_12 : decode cX6_acceptNote 12 = .ok (.istore_n 2, 1) := by decide +kernel
theorem dX6_acceptNote_13 : decode cX6_acceptNote 13 = .ok (.aload_n 0, 1) := by decide +kernel
theorem dX6_acceptNote_14 : decode cX6_acceptNote 14 = .ok (.getfield 12, 3) := by decide +kernel
theorem dX6_acceptNote_17 : decode cX6_acceptNote 17 = .ok (.getfield 194, 3) := by decide +kernel
theorem dX6_acceptNote_20 : decode cX6_acceptNote 20 = .ok (.iload_n 2, 1) := by decide +kernel
theorem dX6_acceptNote_21 : decode cX6_acceptNote 21 = .ok (.bipush 8, 2) := by decide +kernel
theorem dX6_acceptNote_23 : decode cX6_acceptNote 23 = .ok (.invokevirtual 216, 3) := by decide +kernel
theorem dX6_acceptNote_26 : decode cX6_acceptNote 26 = .ok (.aload_n 0, 1) := by decide +kernel
theorem dX6_acceptNote_27 : decode cX6_acceptNote 27 = .ok (.getfield 12, 3) := by decide +kernel
theorem dX6_acceptNote_30 : decode cX6_acceptNote 30 = .ok (.getfield 311, 3) := by decide +kernel
theorem dX6_acceptNote_33 : decode cX6_acceptNote 33 = .ok (.iload_n 1, 1) := by decide +kernel
theorem dX6_acceptNote_34 : decode cX6_acceptNote 34 = .ok (.bipush 8, 2) := by decide +kernel
theorem dX6_acceptNote_36 : decode cX6_acceptNote 36 = .ok (.invokevirtual 216, 3) := by decide +kernel
theorem dX6_acceptNote_39 : decode cX6_acceptNote 39 = .ok (.isub, 1) := by decide +kernel
theorem dX6_acceptNote_40 : decode cX6_acceptNote 40 = .ok (.istore_n 3, 1) := by decide +kernel
theorem dX6_acceptNote_41 : decode cX6_acceptNote 41 = .ok (.aload_n 0, 1) := by decide +kernel
theorem dX6_acceptNote_42 : decode cX6_acceptNote 42 = .ok (.getfield 12, 3) := by decide +kernel
theorem dX6_acceptNote_45 : decode cX6_acceptNote 45 = .ok (.getfield 194, 3) := by decide +kernel
theorem dX6_acceptNote_48 : decode cX6_acceptNote 48 = .ok (.iload_n 2, 1) := by decide +kernel
theorem dX6_acceptNote_49 : decode cX6_acceptNote 49 = .ok (.aload_n 0, 1) := by decide +kernel
theorem dX6_acceptNote_50 : decode cX6_acceptNote 50 = .ok (.getfield 12, 3) := by decide +kernel
theorem dX6_acceptNote_53 : decode cX6_acceptNote 53 = .ok (.getfield 311, 3) := by decide +kernel
theorem dX6_acceptNote_56 : decode cX6_acceptNote 56 = .ok (.iload_n 1, 1) := by decide +kernel
theorem dX6_acceptNote_57 : decode cX6_acceptNote 57 = .ok (.invokevirtual 248, 3) := by decide +kernel
theorem dX6_acceptNote_60 : decode cX6_acceptNote 60 = .ok (.aload_n 0, 1) := by decide +kernel
theorem dX6_acceptNote_61 : decode cX6_acceptNote 61 = .ok (.getfield 12, 3) := by decide +kernel
theorem dX6_acceptNote_64 : decode cX6_acceptNote 64 = .ok (.getfield 225, 3) := by decide +kernel
theorem dX6_acceptNote_67 : decode cX6_acceptNote 67 = .ok (.iload_n 1, 1) := by decide +kernel
theorem dX6_acceptNote_68 : decode cX6_acceptNote 68 = .ok (.iconst 4, 1) := by decide +kernel
theorem dX6_acceptNote_69 : decode cX6_acceptNote 69 = .ok (.iconst 1, 1) := by decide +kernel
theorem dX6_acceptNote_70 : decode cX6_acceptNote 70 = .ok (.invokevirtual 232, 3) := by decide +kernel
theorem dX6_acceptNote_73 : decode cX6_acceptNote 73 = .ok (.aload_n 0, 1) := by decide +kernel
theorem dX6_acceptNote_74 : decode cX6_acceptNote 74 = .ok (.getfield 12, 3) := by decide +kernel
theorem dX6_acceptNote_77 : decode cX6_acceptNote 77 = .ok (.getfield 225, 3) := by decide +kernel
theorem dX6_acceptNote_80 : decode cX6_acceptNote 80 = .ok (.iload_n 1, 1) := by decide +kernel
theorem dX6_acceptNote_81 : decode cX6_acceptNote 81 = .ok (.iconst 5, 1) := by decide +kernel
theorem dX6_acceptNote_82 : decode cX6_acceptNote 82 = .ok (.iload_n 3, 1) := by decide +kernel
theorem dX6_acceptNote_83 : decode cX6_acceptNote 83 = .ok (.invokevirtual 232, 3) := by decide +kernel
theorem dX6_acceptNote_86 : decode cX6_acceptNote 86 = .ok (.iload_n 3, 1) := by decide +kernel
theorem dX6_acceptNote_87 : decode cX6_acceptNote 87 = .ok (.ireturn, 1) := by decide +kernel
