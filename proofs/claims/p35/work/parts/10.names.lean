theorem dX0_init_0 : decode cX0_init 0 = .ok (.aload_n 0, 1) := by decide +kernel
theorem dX0_init_1 : decode cX0_init 1 = .ok (.invokespecial 3, 3) := by decide +kernel
theorem dX0_init_4 : decode cX0_init 4 = .ok (.aload_n 0, 1) := by decide +kernel
theorem dX0_init_5 : decode cX0_init 5 = .ok (.iconst 4, 1) := by decide +kernel
theorem dX0_init_6 : decode cX0_init 6 = .ok (.newarray .int, 2) := by decide +kernel
theorem dX0_init_8 : decode cX0_init 8 = .ok (.putfield 9, 3) := by decide +kernel
theorem dX0_init_11 : decode cX0_init 11 = .ok (.aload_n 0, 1) := by decide +kernel
theorem dX0_init_12 : decode cX0_init 12 = .ok (.bipush 24, 2) := by decide +kernel
theorem dX0_init_14 : decode cX0_init 14 = .ok (.newarray .int, 2) := by decide +kernel
theorem dX0_init_16 : decode cX0_init 16 = .ok (.putfield 15, 3) := by decide +kernel
theorem dX0_init_19 : decode cX0_init 19 = .ok (.aload_n 0, 1) := by decide +kernel
theorem dX0_init_20 : decode cX0_init 20 = .ok (.bipush 24, 2) := by decide +kernel
theorem dX0_init_22 : decode cX0_init 22 = .ok (.newarray .int, 2) := by decide +kernel
theorem dX0_init_24 : decode cX0_init 24 = .ok (.putfield 18, 3) := by decide +kernel
theorem dX0_init_27 : decode cX0_init 27 = .ok (.aload_n 0, 1) := by decide +kernel
theorem dX0_init_28 : decode cX0_init 28 = .ok (.iconst 4, 1) := by decide +kernel
theorem dX0_init_29 : decode cX0_init 29 = .ok (.newarray .int, 2) := by decide +kernel
theorem dX0_init_31 : decode cX0_init 31 = .ok (.dup, 1) := by decide +kernel
theorem dX0_init_32 : decode cX0_init 32 = .ok (.iconst 0, 1) := by decide +kernel
theorem dX0_init_33 : decode cX0_init 33 = .ok (.bipush 100, 2) := by decide +kernel
theorem dX0_init_35 : decode cX0_init 35 = .ok (.iastore, 1) := by decide +kernel
theorem dX0_init_36 : decode cX0_init 36 = .ok (.dup, 1) := by decide +kernel
theorem dX0_init_37 : decode cX0_init 37 = .ok (.iconst 1, 1) := by decide +kernel
theorem dX0_init_38 : decode cX0_init 38 = .ok (.bipush 100, 2) := by decide +kernel
theorem dX0_init_40 : decode cX0_init 40 = .ok (.iastore, 1) := by decide +kernel
theorem dX0_init_41 : decode cX0_init 41 = .ok (.dup, 1) := by decide +kernel
theorem dX0_init_42 : decode cX0_init 42 = .ok (.iconst 2, 1) := by decide +kernel
theorem dX0_init_43 : decode cX0_init 43 = .ok (.bipush 100, 2) := by decide +kernel
theorem dX0_init_45 : decode cX0_init 45 = .ok (.iastore, 1) := by decide +kernel
theorem dX0_init_46 : decode cX0_init 46 = .ok (.dup, 1) := by decide +kernel
theorem dX0_init_47 : decode cX0_init 47 = .ok (.iconst 3, 1) := by decide +kernel
theorem dX0_init_48 : decode cX0_init 48 = .ok (.bipush 100, 2) := by decide +kernel
theorem dX0_init_50 : decode cX0_init 50 = .ok (.iastore, 1) := by decide +kernel
theorem dX0_init_51 : decode cX0_init 51 = .ok (.putfield 21, 3) := by decide +kernel
theorem dX0_init_54 : decode cX0_init 54 = .ok (.return_, 1) := by decide +kernel
set_option maxRecDepth 20000 in
theorem ggX0_bandsOf_X6_isIndex : GoodIn wsX0_bandsOf wsX6_isIndex := goodIn_r _ [4] (by decide +kernel) (by decide +kernel)
set_option maxRecDepth 20000 in
theorem gX0_bandsOf_X6_isIndex_n24 : GoodIn wsX0_bandsOf (wsX6_isIndex) := ggX0_bandsOf_X6_isIndex
theorem dX0_bandsOf_0 : decode cX0_bandsOf 0 = .ok (.iload_n 1, 1) := by decide +kernel
theorem dX0_bandsOf_1 : decode cX0_bandsOf 1 = .ok (.aload_n 0, 1) := by decide +kernel
theorem dX0_bandsOf_2 : decode cX0_bandsOf 2 = .ok (.getfield 9, 3) := by decide +kernel
theorem dX0_bandsOf_5 : decode cX0_bandsOf 5 = .ok (.invokestatic 24, 3) := by decide +kernel
theorem dX0_bandsOf_8 : decode cX0_bandsOf 8 = .ok (.ifCond .eq 12, 3) := by decide +kernel
theorem dX0_bandsOf_11 : decode cX0_bandsOf 11 = .ok (.aload_n 0, 1) := by decide +kernel
theorem dX0_bandsOf_12 : decode cX0_bandsOf 12 = .ok (.getfield 9, 3) := by decide +kernel
theorem dX0_bandsOf_15 : decode cX0_bandsOf 15 = .ok (.iload_n 1, 1) := by decide +kernel
theorem dX0_bandsOf_16 : decode cX0_bandsOf 16 = .ok (.iaload, 1) := by decide +kernel
theorem dX0_bandsOf_17 : decode cX0_bandsOf 17 = .ok (.goto 4, 3) := by decide +kernel
theorem dX0_bandsOf_20 : decode cX0_bandsOf 20 = .ok (.iconst 0, 1) := by decide +kernel
theorem dX0_bandsOf_21 : decode cX0_bandsOf 21 = .ok (.ireturn, 1) := by decide +kernel
theorem dX0_hasBand_0 : decode cX0_hasBand 0 = .ok (.iload_n 1, 1) := by decide +kernel
theorem dX0_hasBand_1 : decode cX0_hasBand 1 = .ok (.ifCond .lt 12, 3) := by decide +kernel
theorem dX0_hasBand_4 : decode cX0_hasBand 4 = .ok (.iload_n 1, 1) := by decide +kernel
theorem dX0_hasBand_5 : decode cX0_hasBand 5 = .ok (.aload_n 0, 1) := by decide +kernel
theorem dX0_hasBand_6 : decode cX0_hasBand 6 = .ok (.getfield 9, 3) := by decide +kernel
theorem dX0_hasBand_9 : decode cX0_hasBand 9 = .ok (.arraylength, 1) := by decide +kernel
theorem dX0_hasBand_10 : decode cX0_hasBand 10 = .ok (.if_icmp .lt 5, 3) := by decide +kernel
theorem dX0_hasBand_13 : decode cX0_hasBand 13 = .ok (.iconst 0, 1) := by decide +kernel
theorem dX0_hasBand_14 : decode cX0_hasBand 14 = .ok (.ireturn, 1) := by decide +kernel
theorem dX0_hasBand_15 : decode cX0_hasBand 15 = .ok (.iload_n 2, 1) := by decide +kernel
theorem dX0_hasBand_16 : decode cX0_hasBand 16 = .ok (.ifCond .lt 17, 3) := by decide +kernel
theorem dX0_hasBand_19 : decode cX0_hasBand 19 = .ok (.iload_n 2, 1) := by decide +kernel
theorem dX0_hasBand_20 : decode cX0_hasBand 20 = .ok (.aload_n 0, 1) := by decide +kernel
theorem dX0_hasBand_21 : decode cX0_hasBand 21 = .ok (.getfield 9, 3) := by decide +kernel
theorem dX0_hasBand_24 : decode cX0_hasBand 24 = .ok (.iload_n 1, 1) := by decide +kernel
theorem dX0_hasBand_25 : decode cX0_hasBand 25 = .ok (.iaload, 1) := by decide +kernel
theorem dX0_hasBand_26 : decode cX0_hasBand 26 = .ok (.if_icmp .ge 7, 3) := by decide +kernel
theorem dX0_hasBand_29 : decode cX0_hasBand 29 = .ok (.iconst 1, 1) := by decide +kernel
theorem dX0_hasBand_30 : decode cX0_hasBand 30 = .ok (.goto 4, 3) := by decide +kernel
theorem dX0_hasBand_33 : decode cX0_hasBand 33 = .ok (.iconst 0, 1) := by decide +kernel
theorem dX0_hasBand_34 : decode cX0_hasBand 34 = .ok (.ireturn, 1) := by decide +kernel
set_option maxRecDepth 20000 in
theorem ggX0_limitOf_X0_hasBand : GoodIn wsX0_limitOf wsX0_hasBand := goodIn_r _ [6, 7, 11, 12, 13, 14] (by decide +kernel) (by decide +kernel)
set_option maxRecDepth 20000 in
theorem gX0_limitOf_X0_hasBand : GoodIn wsX0_limitOf (wsV RX0 28 RX0 yX0_hasBand wsX0_hasBand) := goodIn_app (goodIn_of _ (by decide +kernel)) ggX0_limitOf_X0_hasBand
set_option maxRecDepth 20000 in
theorem ggX0_limitOf_X6_isIndex : GoodIn wsX0_limitOf wsX6_isIndex := goodIn_r _ [10] (by decide +kernel) (by decide +kernel)
set_option maxRecDepth 20000 in
theorem gX0_limitOf_X6_isIndex_n24 : GoodIn wsX0_limitOf (wsX6_isIndex) := ggX0_limitOf_X6_isIndex
theorem dX0_limitOf_0 : decode cX0_limitOf 0 = .ok (.iload_n 1, 1) := by decide +kernel
theorem dX0_limitOf_1 : decode cX0_limitOf 1 = .ok (.bipush 6, 2) := by decide +kernel
theorem dX0_limitOf_3 : decode cX0_limitOf 3 = .ok (.imul, 1) := by decide +kernel
theorem dX0_limitOf_4 : decode cX0_limitOf 4 = .ok (.iload_n 2, 1) := by decide +kernel
theorem dX0_limitOf_5 : decode cX0_limitOf 5 = .ok (.iadd, 1) := by decide +kernel
theorem dX0_limitOf_6 : decode cX0_limitOf 6 = .ok (.istore_n 3, 1) := by decide +kernel
theorem dX0_limitOf_7 : decode cX0_limitOf 7 = .ok (.aload_n 0, 1) := by decide +kernel
theorem dX0_limitOf_8 : decode cX0_limitOf 8 = .ok (.iload_n 1, 1) := by decide +kernel
theorem dX0_limitOf_9 : decode cX0_limitOf 9 = .ok (.iload_n 2, 1) := by decide +kernel
theorem dX0_limitOf_10 : decode cX0_limitOf 10 = .ok (.invokevirtual 28, 3) := by decide +kernel
theorem dX0_limitOf_13 : decode cX0_limitOf 13 = .ok (.ifCond .eq 23, 3) := by decide +kernel
theorem dX0_limitOf_16 : decode cX0_limitOf 16 = .ok (.iload_n 3, 1) := by decide +kernel
theorem dX0_limitOf_17 : decode cX0_limitOf 17 = .ok (.aload_n 0, 1) := by decide +kernel
theorem dX0_limitOf_18 : decode cX0_limitOf 18 = .ok (.getfield 15, 3) := by decide +kernel
theorem dX0_limitOf_21 : decode cX0_limitOf 21 = .ok (.invokestatic 24, 3) := by decide +kernel
theorem dX0_limitOf_24 : decode cX0_limitOf 24 = .ok (.ifCond .eq 12, 3) := by decide +kernel
theorem dX0_limitOf_27 : decode cX0_limitOf 27 = .ok (.aload_n 0, 1) := by decide +kernel
theorem dX0_limitOf_28 : decode cX0_limitOf 28 = .ok (.getfield 15, 3) := by decide +kernel
theorem dX0_limitOf_31 : decode cX0_limitOf 31 = .ok (.iload_n 3, 1) := by decide +kernel
theorem dX0_limitOf_32 : decode cX0_limitOf 32 = .ok (.iaload, 1) := by decide +kernel
theorem dX0_limitOf_33 : decode cX0_limitOf 33 = .ok (.goto 4, 3) := by decide +kernel
theorem dX0_limitOf_36 : decode cX0_limitOf 36 = .ok (.iconst 0, 1) := by decide +kernel
theorem dX0_limitOf_37 : decode cX0_limitOf 37 = .ok (.ireturn, 1) := by decide +kernel
set_option maxRecDepth 20000 in
theorem ggX0_priceOf_X0_hasBand : GoodIn wsX0_priceOf wsX0_hasBand := goodIn_r _ [6, 7, 11, 12, 13, 14] (by decide +kernel) (by decide +kernel)
set_option maxRecDepth 20000 in
theorem gX0_priceOf_X0_hasBand : GoodIn wsX0_priceOf (wsV RX0 28 RX0 yX0_hasBand wsX0_hasBand) := goodIn_app (goodIn_of _ (by decide +kernel)) ggX0_priceOf_X0_hasBand
set_option maxRecDepth 20000 in
theorem ggX0_priceOf_X6_isIndex : GoodIn wsX0_priceOf wsX6_isIndex := goodIn_r _ [10] (by decide +kernel) (by decide +kernel)
set_option maxRecDepth 20000 in
theorem gX0_priceOf_X6_isIndex_n24 : GoodIn wsX0_priceOf (wsX6_isIndex) := ggX0_priceOf_X6_isIndex
theorem dX0_priceOf_0 : decode cX0_priceOf 0 = .ok (.iload_n 1, 1) := by decide +kernel
theorem dX0_priceOf_1 : decode cX0_priceOf 1 = .ok (.bipush 6, 2) := by decide +kernel
theorem dX0_priceOf_3 : decode cX0_priceOf 3 = .ok (.imul, 1) := by decide +kernel
theorem dX0_priceOf_4 : decode cX0_priceOf 4 = .ok (.iload_n 2, 1) := by decide +kernel
theorem dX0_priceOf_5 : decode cX0_priceOf 5 = .ok (.iadd, 1) := by decide +kernel
theorem dX0_priceOf_6 : decode cX0_priceOf 6 = .ok (.istore_n 3, 1) := by decide +kernel
theorem dX0_priceOf_7 : decode cX0_priceOf 7 = .ok (.aload_n 0, 1) := by decide +kernel
theorem dX0_priceOf_8 : decode cX0_priceOf 8 = .ok (.iload_n 1, 1) := by decide +kernel
theorem dX0_priceOf_9 : decode cX0_priceOf 9 = .ok (.iload_n 2, 1) := by decide +kernel
theorem dX0_priceOf_10 : decode cX0_priceOf 10 = .ok (.invokevirtual 28, 3) := by decide +kernel
theorem dX0_priceOf_13 : decode cX0_priceOf 13 = .ok (.ifCond .eq 23, 3) := by decide +kernel
theorem dX0_priceOf_16 : decode cX0_priceOf 16 = .ok (.iload_n 3, 1) := by decide +kernel
theorem dX0_priceOf_17 : decode cX0_priceOf 17 = .ok (.aload_n 0, 1) := by decide +kernel
theorem dX0_priceOf_18 : decode cX0_priceOf 18 = .ok (.getfield 18, 3) := by decide +kernel
theorem dX0_priceOf_21 : decode cX0_priceOf 21 = .ok (.invokestatic 24, 3) := by decide +kernel
theorem dX0_priceOf_24 : decode cX0_priceOf 24 = .ok (.ifCond .eq 12, 3) := by decide +kernel
theorem dX0_priceOf_27 : decode cX0_priceOf 27 = .ok (.aload_n 0, 1) := by decide +kernel
theorem dX0_priceOf_28 : decode cX0_priceOf 28 = .ok (.getfield 18, 3) := by decide +kernel
theorem dX0_priceOf_31 : decode cX0_priceOf 31 = .ok (.iload_n 3, 1) := by decide +kernel
theorem dX0_priceOf_32 : decode cX0_priceOf 32 = .ok (.iaload, 1) := by decide +kernel
theorem dX0_priceOf_33 : decode cX0_priceOf 33 = .ok (.goto 4, 3) := by decide +kernel
theorem dX0_priceOf_36 : decode cX0_priceOf 36 = .ok (.iconst 0, 1) := by decide +kernel
theorem dX0_priceOf_37 : decode cX0_priceOf 37 = .ok (.ireturn, 1) := by decide +kernel
set_option maxRecDepth 20000 in
theorem ggX0_putBand_X0_hasBand : GoodIn wsX0_putBand wsX0_hasBand := goodIn_r _ [7, 8, 12, 13, 14, 15] (by decide +kernel) (by decide +kernel)
set_option maxRecDepth 20000 in
theorem gX0_putBand_X0_hasBand : GoodIn wsX0_putBand (wsV RX0 28 RX0 yX0_hasBand wsX0_hasBand) := goodIn_app (goodIn_of _ (by decide +kernel)) ggX0_putBand_X0_hasBand
set_option maxRecDepth 20000 in
theorem ggX0_putBand_X6_isIndex : GoodIn wsX0_putBand wsX6_isIndex := goodIn_r _ [11] (by decide +kernel) (by decide +kernel)
set_option maxRecDepth 20000 in
theorem gX0_putBand_X6_isIndex_n24 : GoodIn wsX0_putBand (wsX6_isIndex) := ggX0_putBand_X6_isIndex
theorem dX0_putBand_0 : decode cX0_putBand 0 = .ok (.iload_n 1, 1) := by decide +kernel
theorem dX0_putBand_1 : decode cX0_putBand 1 = .ok (.bipush 6, 2) := by decide +kernel
theorem dX0_putBand_3 : decode cX0_putBand 3 = .ok (.imul, 1) := by decide +kernel
theorem dX0_putBand_4 : decode cX0_putBand 4 = .ok (.iload_n 2, 1) := by decide +kernel
theorem dX0_putBand_5 : decode cX0_putBand 5 = .ok (.iadd, 1) := by decide +kernel
theorem dX0_putBand_6 : decode cX0_putBand 6 = .ok (.istore 5, 2) := by decide +kernel
theorem dX0_putBand_8 : decode cX0_putBand 8 = .ok (.aload_n 0, 1) := by decide +kernel
theorem dX0_putBand_9 : decode cX0_putBand 9 = .ok (.iload_n 1, 1) := by decide +kernel
theorem dX0_putBand_10 : decode cX0_putBand 10 = .ok (.iload_n 2, 1) := by decide +kernel
theorem dX0_putBand_11 : decode cX0_putBand 11 = .ok (.invokevirtual 28, 3) := by decide +kernel
theorem dX0_putBand_14 : decode cX0_putBand 14 = .ok (.ifCond .eq 44, 3) := by decide +kernel
theorem dX0_putBand_17 : decode cX0_putBand 17 = .ok (.iload 5, 2) := by decide +kernel
theorem dX0_putBand_19 : decode cX0_putBand 19 = .ok (.aload_n 0, 1) := by decide +kernel
theorem dX0_putBand_20 : decode cX0_putBand 20 = .ok (.getfield 15, 3) := by decide +kernel
theorem dX0_putBand_23 : decode cX0_putBand 23 = .ok (.invokestatic 24, 3) := by decide +kernel
theorem dX0_putBand_26 : decode cX0_putBand 26 = .ok (.ifCond .eq 32, 3) := by decide +kernel
theorem dX0_putBand_29 : decode cX0_putBand 29 = .ok (.iload 5, 2) := by decide +kernel
theorem dX0_putBand_31 : decode cX0_putBand 31 = .ok (.aload_n 0, 1) := by decide +kernel
theorem dX0_putBand_32 : decode cX0_putBand 32 = .ok (.getfield 18, 3) := by decide +kernel
theorem dX0_putBand_35 : decode cX0_putBand 35 = .ok (.invokestatic 24, 3) := by decide +kernel
theorem dX0_putBand_38 : decode cX0_putBand 38 = .ok (.ifCond .eq 20, 3) := by decide +kernel
theorem dX0_putBand_41 : decode cX0_putBand 41 = .ok (.aload_n 0, 1) := by decide +kernel
theorem dX0_putBand_42 : decode cX0_putBand 42 = .ok (.getfield 15, 3) := by decide +kernel
theorem dX0_putBand_45 : decode cX0_putBand 45 = .ok (.iload 5, 2) := by decide +kernel
theorem dX0_putBand_47 : decode cX0_putBand 47 = .ok (.iload_n 3, 1) := by decide +kernel
theorem dX0_putBand_48 : decode cX0_putBand 48 = .ok (.iastore, 1) := by decide +kernel
theorem dX0_putBand_49 : decode cX0_putBand 49 = .ok (.aload_n 0, 1) := by decide +kernel
theorem dX0_putBand_50 : decode cX0_putBand 50 = .ok (.getfield 18, 3) := by decide +kernel
theorem dX0_putBand_53 : decode cX0_putBand 53 = .ok (.iload 5, 2) := by decide +kernel
theorem dX0_putBand_55 : decode cX0_putBand 55 = .ok (.iload 4, 2) := by decide +kernel
theorem dX0_putBand_57 : decode cX0_putBand 57 = .ok (.iastore, 1) := by decide +kernel
theorem dX0_putBand_58 : decode cX0_putBand 58 = .ok (.return_, 1) := by decide +kernel
set_option maxRecDepth 20000 in
theorem ggX0_bandFor_X0_bandsOf : GoodIn wsX0_bandFor wsX0_bandsOf := goodIn_r _ [5, 6, 7, 8, 9, 19, 20, 21, 22] (by decide +kernel) (by decide +kernel)
set_option maxRecDepth 20000 in
theorem gX0_bandFor_X0_bandsOf : GoodIn wsX0_bandFor (wsV RX0 32 RX0 yX0_bandsOf wsX0_bandsOf) := goodIn_app (goodIn_of _ (by decide +kernel)) ggX0_bandFor_X0_bandsOf
set_option maxRecDepth 20000 in
theorem ggX0_bandFor_X0_limitOf : GoodIn wsX0_bandFor wsX0_limitOf := goodIn_r _ [13, 14, 15, 16, 17, 4, 18, 6, 7, 8, 9, 19, 20, 21, 22] (by decide +kernel) (by decide +kernel)
set_option maxRecDepth 20000 in
theorem gX0_bandFor_X0_limitOf : GoodIn wsX0_bandFor (wsV RX0 36 RX0 yX0_limitOf wsX0_limitOf) := goodIn_app (goodIn_of _ (by decide +kernel)) ggX0_bandFor_X0_limitOf
theorem dX0_bandFor_0 : decode cX0_bandFor 0 = .ok (.aload_n 0, 1) := by decide +kernel
theorem dX0_bandFor_1 : decode cX0_bandFor 1 = .ok (.iload_n 1, 1) := by decide +kernel
theorem dX0_bandFor_2 : decode cX0_bandFor 2 = .ok (.invokevirtual 32, 3) := by decide +kernel
theorem dX0_bandFor_5 : decode cX0_bandFor 5 = .ok (.istore_n 3, 1) := by decide +kernel
theorem dX0_bandFor_6 : decode cX0_bandFor 6 = .ok (.iconst 0, 1) := by decide +kernel
theorem dX0_bandFor_7 : decode cX0_bandFor 7 = .ok (.istore 4, 2) := by decide +kernel
theorem dX0_bandFor_9 : decode cX0_bandFor 9 = .ok (.iload 4, 2) := by decide +kernel
theorem dX0_bandFor_11 : decode cX0_bandFor 11 = .ok (.iload_n 3, 1) := by decide +kernel
theorem dX0_bandFor_12 : decode cX0_bandFor 12 = .ok (.if_icmp .ge 23, 3) := by decide +kernel
theorem dX0_bandFor_15 : decode cX0_bandFor 15 = .ok (.aload_n 0, 1) := by decide +kernel
theorem dX0_bandFor_16 : decode cX0_bandFor 16 = .ok (.iload_n 1, 1) := by decide +kernel
theorem dX0_bandFor_17 : decode cX0_bandFor 17 = .ok (.iload 4, 2) := by decide +kernel
theorem dX0_bandFor_19 : decode cX0_bandFor 19 = .ok (.invokevirtual 36, 3) := by decide +kernel
theorem dX0_bandFor_22 : decode cX0_bandFor 22 = .ok (.iload_n 2, 1) := by decide +kernel
theorem dX0_bandFor_23 : decode cX0_bandFor 23 = .ok (.if_icmp .lt 6, 3) := by decide +kernel
theorem dX0_bandFor_26 : decode cX0_bandFor 26 = .ok (.iload 4, 2) := by decide +kernel
theorem dX0_bandFor_28 : decode cX0_bandFor 28 = .ok (.ireturn, 1) := by decide +kernel
theorem dX0_bandFor_29 : decode cX0_bandFor 29 = .ok (.iinc 4 1, 3) := by decide +kernel
theorem dX0_bandFor_32 : decode cX0_bandFor 32 = .ok (.goto (-23), 3) := by decide +kernel
theorem dX0_bandFor_35 : decode cX0_bandFor 35 = .ok (.iload_n 3, 1) := by decide +kernel
theorem dX0_bandFor_36 : decode cX0_bandFor 36 = .ok (.ireturn, 1) := by decide +kernel
set_option maxRecDepth 20000 in
theorem ggX0_openBand_X6_isIndex : GoodIn wsX0_openBand wsX6_isIndex := goodIn_r _ [4] (by decide +kernel) (by decide +kernel)
set_option maxRecDepth 20000 in
theorem gX0_openBand_X6_isIndex_n24 : GoodIn wsX0_openBand (wsX6_isIndex) := ggX0_openBand_X6_isIndex
set_option maxRecDepth 20000 in
theorem ggX0_openBand_X0_bandsOf : GoodIn wsX0_openBand wsX0_bandsOf := goodIn_r _ [9, 1, 2, 3, 4, 28, 29, 30, 31] (by decide +kernel) (by decide +kernel)
set_option maxRecDepth 20000 in
theorem gX0_openBand_X0_bandsOf : GoodIn wsX0_openBand (wsV RX0 32 RX0 yX0_bandsOf wsX0_bandsOf) := goodIn_app (goodIn_of _ (by decide +kernel)) ggX0_openBand_X0_bandsOf
set_option maxRecDepth 20000 in
theorem ggX0_openBand_X0_limitOf : GoodIn wsX0_openBand wsX0_limitOf := goodIn_r _ [13, 14, 15, 16, 17, 8, 18, 1, 2, 3, 4, 28, 29, 30, 31] (by decide +kernel) (by decide +kernel)
set_option maxRecDepth 20000 in
theorem gX0_openBand_X0_limitOf : GoodIn wsX0_openBand (wsV RX0 36 RX0 yX0_limitOf wsX0_limitOf) := goodIn_app (goodIn_of _ (by decide +kernel)) ggX0_openBand_X0_limitOf
set_option maxRecDepth 20000 in
theorem ggX0_openBand_X0_priceOf : GoodIn wsX0_openBand wsX0_priceOf := goodIn_r _ [22, 23, 15, 16, 17, 8, 18, 1, 2, 3, 4, 28, 29, 30, 31] (by decide +kernel) (by decide +kernel)
set_option maxRecDepth 20000 in
theorem gX0_openBand_X0_priceOf : GoodIn wsX0_openBand (wsV RX0 40 RX0 yX0_priceOf wsX0_priceOf) := goodIn_app (goodIn_of _ (by decide +kernel)) ggX0_openBand_X0_priceOf
set_option maxRecDepth 20000 in
theorem ggX0_openBand_X0_putBand : GoodIn wsX0_openBand wsX0_putBand := goodIn_r _ [27, 14, 23, 15, 16, 17, 8, 18, 1, 2, 3, 4, 28, 29, 30, 31] (by decide +kernel) (by decide +kernel)
set_option maxRecDepth 20000 in
theorem gX0_openBand_X0_putBand : GoodIn wsX0_openBand (wsV RX0 43 RX0 yX0_putBand wsX0_putBand) := goodIn_app (goodIn_of _ (by decide +kernel)) ggX0_openBand_X0_putBand
theorem dX0_openBand_0 : decode cX0_openBand 0 = .ok (.iload_n 1, 1) := by decide +kernel
theorem dX0_openBand_1 : decode cX0_openBand 1 = .ok (.aload_n 0, 1) := by decide +kernel
theorem dX0_openBand_2 : decode cX0_openBand 2 = .ok (.getfield 9, 3) := by decide +kernel
theorem dX0_openBand_5 : decode cX0_openBand 5 = .ok (.invokestatic 24, 3) := by decide +kernel
theorem dX0_openBand_8 : decode cX0_openBand 8 = .ok (.ifCond .eq 13, 3) := by decide +kernel
theorem dX0_openBand_11 : decode cX0_openBand 11 = .ok (.aload_n 0, 1) := by decide +kernel
theorem dX0_openBand_12 : decode cX0_openBand 12 = .ok (.getfield 9, 3) := by decide +kernel
theorem dX0_openBand_15 : decode cX0_openBand 15 = .ok (.iload_n 1, 1) := by decide +kernel
theorem dX0_openBand_16 : decode cX0_openBand 16 = .ok (.dup2, 1) := by decide +kernel
theorem dX0_openBand_17 : decode cX0_openBand 17 = .ok (.iaload, 1) := by decide +kernel
theorem dX0_openBand_18 : decode cX0_openBand 18 = .ok (.iconst 1, 1) := by decide +kernel
theorem dX0_openBand_19 : decode cX0_openBand 19 = .ok (.iadd, 1) := by decide +kernel
theorem dX0_openBand_20 : decode cX0_openBand 20 = .ok (.iastore, 1) := by decide +kernel
theorem dX0_openBand_21 : decode cX0_openBand 21 = .ok (.aload_n 0, 1) := by decide +kernel
theorem dX0_openBand_22 : decode cX0_openBand 22 = .ok (.iload_n 1, 1) := by decide +kernel
theorem dX0_openBand_23 : decode cX0_openBand 23 = .ok (.invokevirtual 32, 3) := by decide +kernel
theorem dX0_openBand_26 : decode cX0_openBand 26 = .ok (.iconst 1, 1) := by decide +kernel
theorem dX0_openBand_27 : decode cX0_openBand 27 = .ok (.isub, 1) := by decide +kernel
theorem dX0_openBand_28 : decode cX0_openBand 28 = .ok (.istore_n 3, 1) := by decide +kernel
theorem dX0_openBand_29 : decode cX0_openBand 29 = .ok (.iload_n 3, 1) := by decide +kernel
theorem dX0_openBand_30 : decode cX0_openBand 30 = .ok (.iload_n 2, 1) := by decide +kernel
theorem dX0_openBand_31 : decode cX0_openBand 31 = .ok (.if_icmp .le 31, 3) := by decide +kernel
theorem dX0_openBand_34 : decode cX0_openBand 34 = .ok (.aload_n 0, 1) := by decide +kernel
theorem dX0_openBand_35 : decode cX0_openBand 35 = .ok (.iload_n 1, 1) := by decide +kernel
theorem dX0_openBand_36 : decode cX0_openBand 36 = .ok (.iload_n 3, 1) := by decide +kernel
theorem dX0_openBand_37 : decode cX0_openBand 37 = .ok (.aload_n 0, 1) := by decide +kernel
theorem dX0_openBand_38 : decode cX0_openBand 38 = .ok (.iload_n 1, 1) := by decide +kernel
theorem dX0_openBand_39 : decode cX0_openBand 39 = .ok (.iload_n 3, 1) := by decide +kernel
theorem dX0_openBand_40 : decode cX0_openBand 40 = .ok (.iconst 1, 1) := by decide +kernel
theorem dX0_openBand_41 : decode cX0_openBand 41 = .ok (.isub, 1) := by decide +kernel
theorem dX0_openBand_42 : decode cX0_openBand 42 = .ok (.invokevirtual 36, 3) := by decide +kernel
theorem dX0_openBand_45 : decode cX0_openBand 45 = .ok (.aload_n 0, 1) := by decide +kernel
theorem dX0_openBand_46 : decode cX0_openBand 46 = .ok (.iload_n 1, 1) := by decide +kernel
theorem dX0_openBand_47 : decode cX0_openBand 47 = .ok (.iload_n 3, 1) := by decide +kernel
theorem dX0_openBand_48 : decode cX0_openBand 48 = .ok (.iconst 1, 1) := by decide +kernel
theorem dX0_openBand_49 : decode cX0_openBand 49 = .ok (.isub, 1) := by decide +kernel
theorem dX0_openBand_50 : decode cX0_openBand 50 = .ok (.invokevirtual 40, 3) := by decide +kernel
theorem dX0_openBand_53 : decode cX0_openBand 53 = .ok (.invokevirtual 43, 3) := by decide +kernel
theorem dX0_openBand_56 : decode cX0_openBand 56 = .ok (.iinc 3 (-1), 3) := by decide +kernel
theorem dX0_openBand_59 : decode cX0_openBand 59 = .ok (.goto (-30), 3) := by decide +kernel
theorem dX0_openBand_62 : decode cX0_openBand 62 = .ok (.return_, 1) := by decide +kernel
set_option maxRecDepth 20000 in
theorem ggX0_closeBand_X0_bandsOf : GoodIn wsX0_closeBand wsX0_bandsOf := goodIn_r _ [6, 1, 7, 8, 9, 28, 29, 30, 31] (by decide +kernel) (by decide +kernel)
set_option maxRecDepth 20000 in
theorem gX0_closeBand_X0_bandsOf : GoodIn wsX0_closeBand (wsV RX0 32 RX0 yX0_bandsOf wsX0_bandsOf) := goodIn_app (goodIn_of _ (by decide +kernel)) ggX0_closeBand_X0_bandsOf
set_option maxRecDepth 20000 in
theorem ggX0_closeBand_X0_limitOf : GoodIn wsX0_closeBand wsX0_limitOf := goodIn_r _ [13, 14, 15, 16, 17, 5, 18, 1, 7, 8, 9, 28, 29, 30, 31] (by decide +kernel) (by decide +kernel)
set_option maxRecDepth 20000 in
theorem gX0_closeBand_X0_limitOf : GoodIn wsX0_closeBand (wsV RX0 36 RX0 yX0_limitOf wsX0_limitOf) := goodIn_app (goodIn_of _ (by decide +kernel)) ggX0_closeBand_X0_limitOf
set_option maxRecDepth 20000 in
theorem ggX0_closeBand_X0_priceOf : GoodIn wsX0_closeBand wsX0_priceOf := goodIn_r _ [22, 23, 15, 16, 17, 5, 18, 1, 7, 8, 9, 28, 29, 30, 31] (by decide +kernel) (by decide +kernel)
set_option maxRecDepth 20000 in
theorem gX0_closeBand_X0_priceOf : GoodIn wsX0_closeBand (wsV RX0 40 RX0 yX0_priceOf wsX0_priceOf) := goodIn_app (goodIn_of _ (by decide +kernel)) ggX0_closeBand_X0_priceOf
set_option maxRecDepth 20000 in
theorem ggX0_closeBand_X0_putBand : GoodIn wsX0_closeBand wsX0_putBand := goodIn_r _ [27, 14, 23, 15, 16, 17, 5, 18, 1, 7, 8, 9, 28, 29, 30, 31] (by decide +kernel) (by decide +kernel)
set_option maxRecDepth 20000 in
theorem gX0_closeBand_X0_putBand : GoodIn wsX0_closeBand (wsV RX0 43 RX0 yX0_putBand wsX0_putBand) := goodIn_app (goodIn_of _ (by decide +kernel)) ggX0_closeBand_X0_putBand
set_option maxRecDepth 20000 in
theorem ggX0_closeBand_X6_isIndex : GoodIn wsX0_closeBand wsX6_isIndex := goodIn_r _ [9] (by decide +kernel) (by decide +kernel)
set_option maxRecDepth 20000 in
theorem gX0_closeBand_X6_isIndex_n24 : GoodIn wsX0_closeBand (wsX6_isIndex) := ggX0_closeBand_X6_isIndex
theorem dX0_closeBand_0 : decode cX0_closeBand 0 = .ok (.iload_n 2, 1) := by decide +kernel
theorem dX0_closeBand_1 : decode cX0_closeBand 1 = .ok (.iconst 1, 1) := by decide +kernel
theorem dX0_closeBand_2 : decode cX0_closeBand 2 = .ok (.iadd, 1) := by decide +kernel
theorem dX0_closeBand_3 : decode cX0_closeBand 3 = .ok (.istore_n 3, 1) := by decide +kernel
theorem dX0_closeBand_4 : decode cX0_closeBand 4 = .ok (.iload_n 3, 1) := by decide +kernel
theorem dX0_closeBand_5 : decode cX0_closeBand 5 = .ok (.aload_n 0, 1) := by decide +kernel
theorem dX0_closeBand_6 : decode cX0_closeBand 6 = .ok (.iload_n 1, 1) := by decide +kernel
theorem dX0_closeBand_7 : decode cX0_closeBand 7 = .ok (.invokevirtual 32, 3) := by decide +kernel
theorem dX0_closeBand_10 : decode cX0_closeBand 10 = .ok (.if_icmp .ge 29, 3) := by decide +kernel
theorem dX0_closeBand_13 : decode cX0_closeBand 13 = .ok (.aload_n 0, 1) := by decide +kernel
theorem dX0_closeBand_14 : decode cX0_closeBand 14 = .ok (.iload_n 1, 1) := by decide +kernel
theorem dX0_closeBand_15 : decode cX0_closeBand 15 = .ok (.iload_n 3, 1) := by decide +kernel
theorem dX0_closeBand_16 : decode cX0_closeBand 16 = .ok (.iconst 1, 1) := by decide +kernel
theorem dX0_closeBand_17 : decode cX0_closeBand 17 = .ok (.isub, 1) := by decide +kernel
theorem dX0_closeBand_18 : decode cX0_closeBand 18 = .ok (.aload_n 0, 1) := by decide +kernel
theorem dX0_closeBand_19 : decode cX0_closeBand 19 = .ok (.iload_n 1, 1) := by decide +kernel
theorem dX0_closeBand_20 : decode cX0_closeBand 20 = .ok (.iload_n 3, 1) := by decide +kernel
theorem dX0_closeBand_21 : decode cX0_closeBand 21 = .ok (.invokevirtual 36, 3) := by decide +kernel
theorem dX0_closeBand_24 : decode cX0_closeBand 24 = .ok (.aload_n 0, 1) := by decide +kernel
theorem dX0_closeBand_25 : decode cX0_closeBand 25 = .ok (.iload_n 1, 1) := by decide +kernel
theorem dX0_closeBand_26 : decode cX0_closeBand 26 = .ok (.iload_n 3, 1) := by decide +kernel
theorem dX0_closeBand_27 : decode cX0_closeBand 27 = .ok (.invokevirtual 40, 3) := by decide +kernel
theorem dX0_closeBand_30 : decode cX0_closeBand 30 = .ok (.invokevirtual 43, 3) := by decide +kernel
theorem dX0_closeBand_33 : decode cX0_closeBand 33 = .ok (.iinc 3 1, 3) := by decide +kernel
theorem dX0_closeBand_36 : decode cX0_closeBand 36 = .ok (.goto (-32), 3) := by decide +kernel
theorem dX0_closeBand_39 : decode cX0_closeBand 39 = .ok (.iload_n 1, 1) := by decide +kernel
theorem dX0_closeBand_40 : decode cX0_closeBand 40 = .ok (.aload_n 0, 1) := by decide +kernel
theorem dX0_closeBand_41 : decode cX0_closeBand 41 = .ok (.getfield 9, 3) := by decide +kernel
theorem dX0_closeBand_44 : decode cX0_closeBand 44 = .ok (.invokestatic 24, 3) := by decide +kernel
theorem dX0_closeBand_47 : decode cX0_closeBand 47 = .ok (.ifCond .eq 13, 3) := by decide +kernel
theorem dX0_closeBand_50 : decode cX0_closeBand 50 = .ok (.aload_n 0, 1) := by decide +kernel
theorem dX0_closeBand_51 : decode cX0_closeBand 51 = .ok (.getfield 9, 3) := by decide +kernel
theorem dX0_closeBand_54 : decode cX0_closeBand 54 = .ok (.iload_n 1, 1) := by decide +kernel
theorem dX0_closeBand_55 : decode cX0_closeBand 55 = .ok (.dup2, 1) := by decide +kernel
theorem dX0_closeBand_56 : decode cX0_closeBand 56 = .ok (.iaload, 1) := by decide +kernel
theorem dX0_closeBand_57 : decode cX0_closeBand 57 = .ok (.iconst 1, 1) := by decide +kernel
theorem dX0_closeBand_58 : decode cX0_closeBand 58 = .ok (.isub, 1) := by decide +kernel
theorem dX0_closeBand_59 : decode cX0_closeBand 59 = .ok (.iastore, 1) := by decide +kernel
theorem dX0_closeBand_60 : decode cX0_closeBand 60 = .ok (.return_, 1) := by decide +kernel
set_option maxRecDepth 20000 in
theorem ggX0_extraOf_X6_isIndex : GoodIn wsX0_extraOf wsX6_isIndex := goodIn_r _ [4] (by decide +kernel) (by decide +kernel)
set_option maxRecDepth 20000 in
theorem gX0_extraOf_X6_isIndex_n24 : GoodIn wsX0_extraOf (wsX6_isIndex) := ggX0_extraOf_X6_isIndex
theorem dX0_extraOf_0 : decode cX0_extraOf 0 = .ok (.iload_n 1, 1) := by decide +kernel
theorem dX0_extraOf_1 : decode cX0_extraOf 1 = .ok (.aload_n 0, 1) := by decide +kernel
theorem dX0_extraOf_2 : decode cX0_extraOf 2 = .ok (.getfield 21, 3) := by decide +kernel
theorem dX0_extraOf_5 : decode cX0_extraOf 5 = .ok (.invokestatic 24, 3) := by decide +kernel
theorem dX0_extraOf_8 : decode cX0_extraOf 8 = .ok (.ifCond .eq 12, 3) := by decide +kernel
theorem dX0_extraOf_11 : decode cX0_extraOf 11 = .ok (.aload_n 0, 1) := by decide +kernel
theorem dX0_extraOf_12 : decode cX0_extraOf 12 = .ok (.getfield 21, 3) := by decide +kernel
theorem dX0_extraOf_15 : decode cX0_extraOf 15 = .ok (.iload_n 1, 1) := by decide +kernel
theorem dX0_extraOf_16 : decode cX0_extraOf 16 = .ok (.iaload, 1) := by decide +kernel
theorem dX0_extraOf_17 : decode cX0_extraOf 17 = .ok (.goto 4, 3) := by decide +kernel
theorem dX0_extraOf_20 : decode cX0_extraOf 20 = .ok (.iconst 0, 1) := by decide +kernel
theorem dX0_extraOf_21 : decode cX0_extraOf 21 = .ok (.ireturn, 1) := by decide +kernel
set_option maxRecDepth 20000 in
theorem ggX0_putExtra_X6_isIndex : GoodIn wsX0_putExtra wsX6_isIndex := goodIn_r _ [4] (by decide +kernel) (by decide +kernel)
set_option maxRecDepth 20000 in
theorem gX0_putExtra_X6_isIndex_n24 : GoodIn wsX0_putExtra (wsX6_isIndex) := ggX0_putExtra_X6_isIndex
theorem dX0_putExtra_0 : decode cX0_putExtra 0 = .ok (.iload_n 1, 1) := by decide +kernel
theorem dX0_putExtra_1 : decode cX0_putExtra 1 = .ok (.aload_n 0, 1) := by decide +kernel
theorem dX0_putExtra_2 : decode cX0_putExtra 2 = .ok (.getfield 21, 3) := by decide +kernel
theorem dX0_putExtra_5 : decode cX0_putExtra 5 = .ok (.invokestatic 24, 3) := by decide +kernel
theorem dX0_putExtra_8 : decode cX0_putExtra 8 = .ok (.ifCond .eq 10, 3) := by decide +kernel
theorem dX0_putExtra_11 : decode cX0_putExtra 11 = .ok (.aload_n 0, 1) := by decide +kernel
theorem dX0_putExtra_12 : decode cX0_putExtra 12 = .ok (.getfield 21, 3) := by decide +kernel
theorem dX0_putExtra_15 : decode cX0_putExtra 15 = .ok (.iload_n 1, 1) := by decide +kernel
theorem dX0_putExtra_16 : decode cX0_putExtra 16 = .ok (.iload_n 2, 1) := by decide +kernel
theorem dX0_putExtra_17 : decode cX0_putExtra 17 = .ok (.iastore, 1) := by decide +kernel
theorem dX0_putExtra_18 : decode cX0_putExtra 18 = .ok (.return_, 1) := by decide +kernel
set_option maxRecDepth 20000 in
theorem ggX0_base_X5_cell : GoodIn wsX0_base wsX5_cell := goodIn_r _ [5, 6, 7, 8, 54, 55, 56, 57] (by decide +kernel) (by decide +kernel)
set_option maxRecDepth 20000 in
theorem gX0_base_X5_cell : GoodIn wsX0_base (wsV RX0 47 RX5 yX5_cell wsX5_cell) := goodIn_app (goodIn_of _ (by decide +kernel)) ggX0_base_X5_cell
set_option maxRecDepth 20000 in
theorem ggX0_base_X0_bandFor : GoodIn wsX0_base wsX0_bandFor := goodIn_r _ [13, 14, 15, 16, 12, 17, 18, 19, 20, 21, 22, 23, 24, 25, 26, 27, 28, 29, 30, 58, 59, 60, 61] (by decide +kernel) (by decide +kernel)
set_option maxRecDepth 20000 in
theorem gX0_base_X0_bandFor : GoodIn wsX0_base (wsV RX0 52 RX0 yX0_bandFor wsX0_bandFor) := goodIn_app (goodIn_of _ (by decide +kernel)) ggX0_base_X0_bandFor
set_option maxRecDepth 20000 in
theorem ggX0_base_X0_hasBand : GoodIn wsX0_base wsX0_hasBand := goodIn_r _ [30, 18, 58, 59, 60, 61] (by decide +kernel) (by decide +kernel)
set_option maxRecDepth 20000 in
theorem gX0_base_X0_hasBand : GoodIn wsX0_base (wsV RX0 28 RX0 yX0_hasBand wsX0_hasBand) := goodIn_app (goodIn_of _ (by decide +kernel)) ggX0_base_X0_hasBand
set_option maxRecDepth 20000 in
theorem ggX0_base_X6_addReason : GoodIn wsX0_base wsX6_addReason := goodIn_r _ [32, 33, 2, 3, 4, 5, 6, 7, 8, 34, 35, 36, 37, 54, 55, 56, 57] (by decide +kernel) (by decide +kernel)
set_option maxRecDepth 20000 in
theorem gX0_base_X6_addReason_n55 : GoodIn wsX0_base (wsX6_addReason) := ggX0_base_X6_addReason
set_option maxRecDepth 20000 in
theorem ggX0_base_X0_priceOf : GoodIn wsX0_base wsX0_priceOf := goodIn_r _ [41, 42, 27, 28, 29, 12, 30, 18, 19, 20, 21, 58, 59, 60, 61] (by decide +kernel) (by decide +kernel)
set_option maxRecDepth 20000 in
theorem gX0_base_X0_priceOf : GoodIn wsX0_base (wsV RX0 40 RX0 yX0_priceOf wsX0_priceOf) := goodIn_app (goodIn_of _ (by decide +kernel)) ggX0_base_X0_priceOf
set_option maxRecDepth 20000 in
theorem ggX0_base_X0_begunAbove : GoodIn wsX0_base wsX0_begunAbove := goodIn_r _ [46, 14, 15, 16, 12, 17, 18, 19, 20, 21, 22, 23, 24, 25, 26, 27, 28, 29, 30, 47, 48, 58, 59, 60, 61] (by decide +kernel) (by decide +kernel)
set_option maxRecDepth 20000 in
theorem gX0_base_X0_begunAbove : GoodIn wsX0_base (wsV RX0 59 RX0 yX0_begunAbove wsX0_begunAbove) := goodIn_app (goodIn_of _ (by decide +kernel)) ggX0_base_X0_begunAbove
set_option maxRecDepth 20000 in
theorem ggX0_base_X0_extraOf : GoodIn wsX0_base wsX0_extraOf := goodIn_r _ [52, 53, 19, 20, 21, 58, 59, 60, 61] (by decide +kernel) (by decide +kernel)
set_option maxRecDepth 20000 in
theorem gX0_base_X0_extraOf : GoodIn wsX0_base (wsV RX0 62 RX0 yX0_extraOf wsX0_extraOf) := goodIn_app (goodIn_of _ (by decide +kernel)) ggX0_base_X0_extraOf
theorem dX0_base_0 : decode cX0_base 0 = .ok (.aload_n 1, 1) := by decide +kernel
theorem dX0_base_1 : decode cX0_base 1 = .ok (.iload_n 2, 1) := by decide +kernel
theorem dX0_base_2 : decode cX0_base 2 = .ok (.iconst 4, 1) := by decide +kernel
theorem dX0_base_3 : decode cX0_base 3 = .ok (.invokevirtual 47, 3) := by decide +kernel
theorem dX0_base_6 : decode cX0_base 6 = .ok (.istore_n 3, 1) := by decide +kernel
theorem dX0_base_7 : decode cX0_base 7 = .ok (.aload_n 1, 1) := by decide +kernel
theorem dX0_base_8 : decode cX0_base 8 = .ok (.iload_n 2, 1) := by decide +kernel
theorem dX0_base_9 : decode cX0_base 9 = .ok (.bipush 6, 2) := by decide +kernel
theorem dX0_base_11 : decode cX0_base 11 = .ok (.invokevirtual 47, 3) := by decide +kernel
theorem dX0_base_14 : decode cX0_base 14 = .ok (.istore 4, 2) := by decide +kernel
theorem dX0_base_16 : decode cX0_base 16 = .ok (.aload_n 0, 1) := by decide +kernel
theorem dX0_base_17 : decode cX0_base 17 = .ok (.iload_n 3, 1) := by decide +kernel
theorem dX0_base_18 : decode cX0_base 18 = .ok (.iload 4, 2) := by decide +kernel
theorem dX0_base_20 : decode cX0_base 20 = .ok (.invokevirtual 52, 3) := by decide +kernel
theorem dX0_base_23 : decode cX0_base 23 = .ok (.istore 5, 2) := by decide +kernel
theorem dX0_base_25 : decode cX0_base 25 = .ok (.aload_n 0, 1) := by decide +kernel
theorem dX0_base_26 : decode cX0_base 26 = .ok (.iload_n 3, 1) := by decide +kernel
theorem dX0_base_27 : decode cX0_base 27 = .ok (.iload 5, 2) := by decide +kernel
theorem dX0_base_29 : decode cX0_base 29 = .ok (.invokevirtual 28, 3) := by decide +kernel
theorem dX0_base_32 : decode cX0_base 32 = .ok (.ifCond .eq 21, 3) := by decide +kernel
theorem dX0_base_35 : decode cX0_base 35 = .ok (.aload_n 1, 1) := by decide +kernel
theorem dX0_base_36 : decode cX0_base 36 = .ok (.iload_n 2, 1) := by decide +kernel
theorem dX0_base_37 : decode cX0_base 37 = .ok (.bipush 10, 2) := by decide +kernel
theorem dX0_base_39 : decode cX0_base 39 = .ok (.iload 5, 2) := by decide +kernel
theorem dX0_base_41 : decode cX0_base 41 = .ok (.iadd, 1) := by decide +kernel
theorem dX0_base_42 : decode cX0_base 42 = .ok (.invokestatic 55, 3) := by decide +kernel
theorem dX0_base_45 : decode cX0_base 45 = .ok (.aload_n 0, 1) := by decide +kernel
theorem dX0_base_46 : decode cX0_base 46 = .ok (.iload_n 3, 1) := by decide +kernel
theorem dX0_base_47 : decode cX0_base 47 = .ok (.iload 5, 2) := by decide +kernel
theorem dX0_base_49 : decode cX0_base 49 = .ok (.invokevirtual 40, 3) := by decide +kernel
theorem dX0_base_52 : decode cX0_base 52 = .ok (.ireturn, 1) := by decide +kernel
theorem dX0_base_53 : decode cX0_base 53 = .ok (.aload_n 1, 1) := by decide +kernel
theorem dX0_base_54 : decode cX0_base 54 = .ok (.iload_n 2, 1) := by decide +kernel
theorem dX0_base_55 : decode cX0_base 55 = .ok (.bipush 20, 2) := by decide +kernel
theorem dX0_base_57 : decode cX0_base 57 = .ok (.invokestatic 55, 3) := by decide +kernel
theorem dX0_base_60 : decode cX0_base 60 = .ok (.aload_n 0, 1) := by decide +kernel
theorem dX0_base_61 : decode cX0_base 61 = .ok (.iload_n 3, 1) := by decide +kernel
theorem dX0_base_62 : decode cX0_base 62 = .ok (.iload 5, 2) := by decide +kernel
theorem dX0_base_64 : decode cX0_base 64 = .ok (.iconst 1, 1) := by decide +kernel
theorem dX0_base_65 : decode cX0_base 65 = .ok (.isub, 1) := by decide +kernel
theorem dX0_base_66 : decode cX0_base 66 = .ok (.invokevirtual 40, 3) := by decide +kernel
theorem dX0_base_69 : decode cX0_base 69 = .ok (.aload_n 0, 1) := by decide +kernel
theorem dX0_base_70 : decode cX0_base 70 = .ok (.iload_n 3, 1) := by decide +kernel
theorem dX0_base_71 : decode cX0_base 71 = .ok (.iload 4, 2) := by decide +kernel
theorem dX0_base_73 : decode cX0_base 73 = .ok (.invokevirtual 59, 3) := by decide +kernel
theorem dX0_base_76 : decode cX0_base 76 = .ok (.aload_n 0, 1) := by decide +kernel
theorem dX0_base_77 : decode cX0_base 77 = .ok (.iload_n 3, 1) := by decide +kernel
theorem dX0_base_78 : decode cX0_base 78 = .ok (.invokevirtual 62, 3) := by decide +kernel
theorem dX0_base_81 : decode cX0_base 81 = .ok (.imul, 1) := by decide +kernel
theorem dX0_base_82 : decode cX0_base 82 = .ok (.iadd, 1) := by decide +kernel
theorem dX0_base_83 : decode cX0_base 83 = .ok (.ireturn, 1) := by decide +kernel
set_option maxRecDepth 20000 in
theorem ggX0_nextLower_X5_cell : GoodIn wsX0_nextLower wsX5_cell := goodIn_r _ [5, 6, 7, 8, 37, 38, 39, 40] (by decide +kernel) (by decide +kernel)
set_option maxRecDepth 20000 in
theorem gX0_nextLower_X5_cell : GoodIn wsX0_nextLower (wsV RX0 47 RX5 yX5_cell wsX5_cell) := goodIn_app (goodIn_of _ (by decide +kernel)) ggX0_nextLower_X5_cell
set_option maxRecDepth 20000 in
theorem ggX0_nextLower_X0_bandFor : GoodIn wsX0_nextLower wsX0_bandFor := goodIn_r _ [13, 14, 15, 16, 12, 17, 18, 19, 20, 21, 22, 23, 24, 25, 26, 27, 28, 29, 30, 41, 42, 43, 44] (by decide +kernel) (by decide +kernel)
set_option maxRecDepth 20000 in
theorem gX0_nextLower_X0_bandFor : GoodIn wsX0_nextLower (wsV RX0 52 RX0 yX0_bandFor wsX0_bandFor) := goodIn_app (goodIn_of _ (by decide +kernel)) ggX0_nextLower_X0_bandFor
set_option maxRecDepth 20000 in
theorem ggX0_nextLower_X0_limitOf : GoodIn wsX0_nextLower wsX0_limitOf := goodIn_r _ [25, 26, 27, 28, 29, 12, 30, 18, 19, 20, 21, 41, 42, 43, 44] (by decide +kernel) (by decide +kernel)
set_option maxRecDepth 20000 in
theorem gX0_nextLower_X0_limitOf : GoodIn wsX0_nextLower (wsV RX0 36 RX0 yX0_limitOf wsX0_limitOf) := goodIn_app (goodIn_of _ (by decide +kernel)) ggX0_nextLower_X0_limitOf
set_option maxRecDepth 20000 in
theorem ggX0_nextLower_X0_hasBand : GoodIn wsX0_nextLower wsX0_hasBand := goodIn_r _ [30, 18, 41, 42, 43, 44] (by decide +kernel) (by decide +kernel)
set_option maxRecDepth 20000 in
theorem gX0_nextLower_X0_hasBand : GoodIn wsX0_nextLower (wsV RX0 28 RX0 yX0_hasBand wsX0_hasBand) := goodIn_app (goodIn_of _ (by decide +kernel)) ggX0_nextLower_X0_hasBand
set_option maxRecDepth 20000 in
theorem ggX0_nextLower_X0_begunAbove : GoodIn wsX0_nextLower wsX0_begunAbove := goodIn_r _ [34, 14, 15, 16, 12, 17, 18, 19, 20, 21, 22, 23, 24, 25, 26, 27, 28, 29, 30, 35, 36, 41, 42, 43, 44] (by decide +kernel) (by decide +kernel)
set_option maxRecDepth 20000 in
theorem gX0_nextLower_X0_begunAbove : GoodIn wsX0_nextLower (wsV RX0 59 RX0 yX0_begunAbove wsX0_begunAbove) := goodIn_app (goodIn_of _ (by decide +kernel)) ggX0_nextLower_X0_begunAbove
theorem dX0_nextLower_0 : decode cX0_nextLower 0 = .ok (.aload_n 1, 1) := by decide +kernel
theorem dX0_nextLower_1 : decode cX0_nextLower 1 = .ok (.iload_n 2, 1) := by decide +kernel
theorem dX0_nextLower_2 : decode cX0_nextLower 2 = .ok (.iconst 4, 1) := by decide +kernel
theorem dX0_nextLower_3 : decode cX0_nextLower 3 = .ok (.invokevirtual 47, 3) := by decide +kernel
theorem dX0_nextLower_6 : decode cX0_nextLower 6 = .ok (.istore_n 3, 1) := by decide +kernel
theorem dX0_nextLower_7 : decode cX0_nextLower 7 = .ok (.aload_n 1, 1) := by decide +kernel
theorem dX0_nextLower_8 : decode cX0_nextLower 8 = .ok (.iload_n 2, 1) := by decide +kernel
theorem dX0_nextLower_9 : decode cX0_nextLower 9 = .ok (.bipush 6, 2) := by decide +kernel
theorem dX0_nextLower_11 : decode cX0_nextLower 11 = .ok (.invokevirtual 47, 3) := by decide +kernel
theorem dX0_nextLower_14 : decode cX0_nextLower 14 = .ok (.istore 4, 2) := by decide +kernel
theorem dX0_nextLower_16 : decode cX0_nextLower 16 = .ok (.aload_n 0, 1) := by decide +kernel
theorem dX0_nextLower_17 : decode cX0_nextLower 17 = .ok (.iload_n 3, 1) := by decide +kernel
theorem dX0_nextLower_18 : decode cX0_nextLower 18 = .ok (.iload 4, 2) := by decide +kernel
theorem dX0_nextLower_20 : decode cX0_nextLower 20 = .ok (.invokevirtual 52, 3) := by decide +kernel
theorem dX0_nextLower_23 : decode cX0_nextLower 23 = .ok (.istore 5, 2) := by decide +kernel
theorem dX0_nextLower_25 : decode cX0_nextLower 25 = .ok (.aload_n 0, 1) := by decide +kernel
theorem dX0_nextLower_26 : decode cX0_nextLower 26 = .ok (.iload_n 3, 1) := by decide +kernel
theorem dX0_nextLower_27 : decode cX0_nextLower 27 = .ok (.iload 5, 2) := by decide +kernel
theorem dX0_nextLower_29 : decode cX0_nextLower 29 = .ok (.iconst 1, 1) := by decide +kernel
theorem dX0_nextLower_30 : decode cX0_nextLower 30 = .ok (.isub, 1) := by decide +kernel
theorem dX0_nextLower_31 : decode cX0_nextLower 31 = .ok (.invokevirtual 36, 3) := by decide +kernel
theorem dX0_nextLower_34 : decode cX0_nextLower 34 = .ok (.istore 6, 2) := by decide +kernel
theorem dX0_nextLower_36 : decode cX0_nextLower 36 = .ok (.aload_n 0, 1) := by decide +kernel
theorem dX0_nextLower_37 : decode cX0_nextLower 37 = .ok (.iload_n 3, 1) := by decide +kernel
theorem dX0_nextLower_38 : decode cX0_nextLower 38 = .ok (.iload 5, 2) := by decide +kernel
theorem dX0_nextLower_40 : decode cX0_nextLower 40 = .ok (.invokevirtual 28, 3) := by decide +kernel
theorem dX0_nextLower_43 : decode cX0_nextLower 43 = .ok (.ifCond .eq 6, 3) := by decide +kernel
theorem dX0_nextLower_46 : decode cX0_nextLower 46 = .ok (.iload 6, 2) := by decide +kernel
theorem dX0_nextLower_48 : decode cX0_nextLower 48 = .ok (.ireturn, 1) := by decide +kernel
theorem dX0_nextLower_49 : decode cX0_nextLower 49 = .ok (.iload 6, 2) := by decide +kernel
theorem dX0_nextLower_51 : decode cX0_nextLower 51 = .ok (.aload_n 0, 1) := by decide +kernel
theorem dX0_nextLower_52 : decode cX0_nextLower 52 = .ok (.iload_n 3, 1) := by decide +kernel
theorem dX0_nextLower_53 : decode cX0_nextLower 53 = .ok (.iload 4, 2) := by decide +kernel
theorem dX0_nextLower_55 : decode cX0_nextLower 55 = .ok (.invokevirtual 59, 3) := by decide +kernel
theorem dX0_nextLower_58 : decode cX0_nextLower 58 = .ok (.iconst 1, 1) := by decide +kernel
theorem dX0_nextLower_59 : decode cX0_nextLower 59 = .ok (.isub, 1) := by decide +kernel
theorem dX0_nextLower_60 : decode cX0_nextLower 60 = .ok (.sipush 1000, 3) := by decide +kernel
theorem dX0_nextLower_63 : decode cX0_nextLower 63 = .ok (.imul, 1) := by decide +kernel
theorem dX0_nextLower_64 : decode cX0_nextLower 64 = .ok (.iadd, 1) := by decide +kernel
theorem dX0_nextLower_65 : decode cX0_nextLower 65 = .ok (.ireturn, 1) := by decide +kernel
set_option maxRecDepth 20000 in
theorem ggX0_begunAbove_X0_bandsOf : GoodIn wsX0_begunAbove wsX0_bandsOf := goodIn_r _ [5, 6, 7, 8, 9, 21, 22, 23, 24] (by decide +kernel) (by decide +kernel)
set_option maxRecDepth 20000 in
theorem gX0_begunAbove_X0_bandsOf : GoodIn wsX0_begunAbove (wsV RX0 32 RX0 yX0_bandsOf wsX0_bandsOf) := goodIn_app (goodIn_of _ (by decide +kernel)) ggX0_begunAbove_X0_bandsOf
set_option maxRecDepth 20000 in
theorem ggX0_begunAbove_X0_limitOf : GoodIn wsX0_begunAbove wsX0_limitOf := goodIn_r _ [13, 14, 15, 16, 17, 4, 18, 6, 7, 8, 9, 21, 22, 23, 24] (by decide +kernel) (by decide +kernel)
set_option maxRecDepth 20000 in
theorem gX0_begunAbove_X0_limitOf : GoodIn wsX0_begunAbove (wsV RX0 36 RX0 yX0_limitOf wsX0_limitOf) := goodIn_app (goodIn_of _ (by decide +kernel)) ggX0_begunAbove_X0_limitOf
set_option maxRecDepth 20000 in
theorem ggX0_begunAbove_X6_dividedUp : GoodIn wsX0_begunAbove wsX6_dividedUp := goodIn_r _ [20] (by decide +kernel) (by decide +kernel)
set_option maxRecDepth 20000 in
theorem gX0_begunAbove_X6_dividedUp_n65 : GoodIn wsX0_begunAbove (wsX6_dividedUp) := ggX0_begunAbove_X6_dividedUp
theorem dX0_begunAbove_0 : decode cX0_begunAbove 0 = .ok (.iload_n 2, 1) := by decide +kernel
theorem dX0_begunAbove_1 : decode cX0_begunAbove 1 = .ok (.aload_n 0, 1) := by decide +kernel
theorem dX0_begunAbove_2 : decode cX0_begunAbove 2 = .ok (.iload_n 1, 1) := by decide +kernel
theorem dX0_begunAbove_3 : decode cX0_begunAbove 3 = .ok (.aload_n 0, 1) := by decide +kernel
theorem dX0_begunAbove_4 : decode cX0_begunAbove 4 = .ok (.iload_n 1, 1) := by decide +kernel
theorem dX0_begunAbove_5 : decode cX0_begunAbove 5 = .ok (.invokevirtual 32, 3) := by decide +kernel
theorem dX0_begunAbove_8 : decode cX0_begunAbove 8 = .ok (.iconst 1, 1) := by decide +kernel
theorem dX0_begunAbove_9 : decode cX0_begunAbove 9 = .ok (.isub, 1) := by decide +kernel
theorem dX0_begunAbove_10 : decode cX0_begunAbove 10 = .ok (.invokevirtual 36, 3) := by decide +kernel
theorem dX0_begunAbove_13 : decode cX0_begunAbove 13 = .ok (.isub, 1) := by decide +kernel
theorem dX0_begunAbove_14 : decode cX0_begunAbove 14 = .ok (.i2l, 1) := by decide +kernel
theorem dX0_begunAbove_15 : decode cX0_begunAbove 15 = .ok (.sipush 1000, 3) := by decide +kernel
theorem dX0_begunAbove_18 : decode cX0_begunAbove 18 = .ok (.invokestatic 65, 3) := by decide +kernel
theorem dX0_begunAbove_21 : decode cX0_begunAbove 21 = .ok (.ireturn, 1) := by decide +kernel
set_option maxRecDepth 20000 in
theorem ggX0_copyFrom_X6_isIndex : GoodIn wsX0_copyFrom wsX6_isIndex := goodIn_r _ [4] (by decide +kernel) (by decide +kernel)
set_option maxRecDepth 20000 in
theorem gX0_copyFrom_X6_isIndex_n24 : GoodIn wsX0_copyFrom (wsX6_isIndex) := ggX0_copyFrom_X6_isIndex
set_option maxRecDepth 20000 in
theorem ggX0_copyFrom_X0_bandsOf : GoodIn wsX0_copyFrom wsX0_bandsOf := goodIn_r _ [9, 1, 2, 3, 4, 37, 38, 39, 40] (by decide +kernel) (by decide +kernel)
set_option maxRecDepth 20000 in
theorem gX0_copyFrom_X0_bandsOf : GoodIn wsX0_copyFrom (wsV RX0 32 RX0 yX0_bandsOf wsX0_bandsOf) := goodIn_app (goodIn_of _ (by decide +kernel)) ggX0_copyFrom_X0_bandsOf
set_option maxRecDepth 20000 in
theorem ggX0_copyFrom_X0_limitOf : GoodIn wsX0_copyFrom wsX0_limitOf := goodIn_r _ [13, 14, 15, 16, 17, 8, 18, 1, 2, 3, 4, 37, 38, 39, 40] (by decide +kernel) (by decide +kernel)
set_option maxRecDepth 20000 in
theorem gX0_copyFrom_X0_limitOf : GoodIn wsX0_copyFrom (wsV RX0 36 RX0 yX0_limitOf wsX0_limitOf) := goodIn_app (goodIn_of _ (by decide +kernel)) ggX0_copyFrom_X0_limitOf
set_option maxRecDepth 20000 in
theorem ggX0_copyFrom_X0_priceOf : GoodIn wsX0_copyFrom wsX0_priceOf := goodIn_r _ [22, 23, 15, 16, 17, 8, 18, 1, 2, 3, 4, 37, 38, 39, 40] (by decide +kernel) (by decide +kernel)
set_option maxRecDepth 20000 in
theorem gX0_copyFrom_X0_priceOf : GoodIn wsX0_copyFrom (wsV RX0 40 RX0 yX0_priceOf wsX0_priceOf) := goodIn_app (goodIn_of _ (by decide +kernel)) ggX0_copyFrom_X0_priceOf
set_option maxRecDepth 20000 in
theorem ggX0_copyFrom_X0_putBand : GoodIn wsX0_copyFrom wsX0_putBand := goodIn_r _ [27, 14, 23, 15, 16, 17, 8, 18, 1, 2, 3, 4, 37, 38, 39, 40] (by decide +kernel) (by decide +kernel)
set_option maxRecDepth 20000 in
theorem gX0_copyFrom_X0_putBand : GoodIn wsX0_copyFrom (wsV RX0 43 RX0 yX0_putBand wsX0_putBand) := goodIn_app (goodIn_of _ (by decide +kernel)) ggX0_copyFrom_X0_putBand
set_option maxRecDepth 20000 in
theorem ggX0_copyFrom_X0_extraOf : GoodIn wsX0_copyFrom wsX0_extraOf := goodIn_r _ [31, 32, 2, 3, 4, 37, 38, 39, 40] (by decide +kernel) (by decide +kernel)
set_option maxRecDepth 20000 in
theorem gX0_copyFrom_X0_extraOf : GoodIn wsX0_copyFrom (wsV RX0 62 RX0 yX0_extraOf wsX0_extraOf) := goodIn_app (goodIn_of _ (by decide +kernel)) ggX0_copyFrom_X0_extraOf
set_option maxRecDepth 20000 in
theorem ggX0_copyFrom_X0_putExtra : GoodIn wsX0_copyFrom wsX0_putExtra := goodIn_r _ [36, 32, 2, 3, 4, 37, 38, 39, 40] (by decide +kernel) (by decide +kernel)
set_option maxRecDepth 20000 in
theorem gX0_copyFrom_X0_putExtra : GoodIn wsX0_copyFrom (wsV RX0 69 RX0 yX0_putExtra wsX0_putExtra) := goodIn_app (goodIn_of _ (by decide +kernel)) ggX0_copyFrom_X0_putExtra
theorem dX0_copyFrom_0 : decode cX0_copyFrom 0 = .ok (.iconst 0, 1) := by decide +kernel
theorem dX0_copyFrom_1 : decode cX0_copyFrom 1 = .ok (.istore_n 2, 1) := by decide +kernel
theorem dX0_copyFrom_2 : decode cX0_copyFrom 2 = .ok (.iload_n 2, 1) := by decide +kernel
theorem dX0_copyFrom_3 : decode cX0_copyFrom 3 = .ok (.iconst 4, 1) := by decide +kernel
theorem dX0_copyFrom_4 : decode cX0_copyFrom 4 = .ok (.if_icmp .ge 73, 3) := by decide +kernel
theorem dX0_copyFrom_7 : decode cX0_copyFrom 7 = .ok (.iload_n 2, 1) := by decide +kernel
theorem dX0_copyFrom_8 : decode cX0_copyFrom 8 = .ok (.aload_n 0, 1) := by decide +kernel
theorem dX0_copyFrom_9 : decode cX0_copyFrom 9 = .ok (.getfield 9, 3) := by decide +kernel
theorem dX0_copyFrom_12 : decode cX0_copyFrom 12 = .ok (.invokestatic 24, 3) := by decide +kernel
theorem dX0_copyFrom_15 : decode cX0_copyFrom 15 = .ok (.ifCond .eq 14, 3) := by decide +kernel
theorem dX0_copyFrom_18 : decode cX0_copyFrom 18 = .ok (.aload_n 0, 1) := by decide +kernel
theorem dX0_copyFrom_19 : decode cX0_copyFrom 19 = .ok (.getfield 9, 3) := by decide +kernel
theorem dX0_copyFrom_22 : decode cX0_copyFrom 22 = .ok (.iload_n 2, 1) := by decide +kernel
theorem dX0_copyFrom_23 : decode cX0_copyFrom 23 = .ok (.aload_n 1, 1) := by decide +kernel
theorem dX0_copyFrom_24 : decode cX0_copyFrom 24 = .ok (.iload_n 2, 1) := by decide +kernel
theorem dX0_copyFrom_25 : decode cX0_copyFrom 25 = .ok (.invokevirtual 32, 3) := by decide +kernel
theorem dX0_copyFrom_28 : decode cX0_copyFrom 28 = .ok (.iastore, 1) := by decide +kernel
theorem dX0_copyFrom_29 : decode cX0_copyFrom 29 = .ok (.iconst 0, 1) := by decide +kernel
theorem dX0_copyFrom_30 : decode cX0_copyFrom 30 = .ok (.istore_n 3, 1) := by decide +kernel
theorem dX0_copyFrom_31 : decode cX0_copyFrom 31 = .ok (.iload_n 3, 1) := by decide +kernel
theorem dX0_copyFrom_32 : decode cX0_copyFrom 32 = .ok (.bipush 6, 2) := by decide +kernel
theorem dX0_copyFrom_34 : decode cX0_copyFrom 34 = .ok (.if_icmp .ge 27, 3) := by decide +kernel
theorem dX0_copyFrom_37 : decode cX0_copyFrom 37 = .ok (.aload_n 0, 1) := by decide +kernel
theorem dX0_copyFrom_38 : decode cX0_copyFrom 38 = .ok (.iload_n 2, 1) := by decide +kernel
theorem dX0_copyFrom_39 : decode cX0_copyFrom 39 = .ok (.iload_n 3, 1) := by decide +kernel
theorem dX0_copyFrom_40 : decode cX0_copyFrom 40 = .ok (.aload_n 1, 1) := by decide +kernel
theorem dX0_copyFrom_41 : decode cX0_copyFrom 41 = .ok (.iload_n 2, 1) := by decide +kernel
theorem dX0_copyFrom_42 : decode cX0_copyFrom 42 = .ok (.iload_n 3, 1) := by decide +kernel
theorem dX0_copyFrom_43 : decode cX0_copyFrom 43 = .ok (.invokevirtual 36, 3) := by decide +kernel
theorem dX0_copyFrom_46 : decode cX0_copyFrom 46 = .ok (.aload_n 1, 1) := by decide +kernel
theorem dX0_copyFrom_47 : decode cX0_copyFrom 47 = .ok (.iload_n 2, 1) := by decide +kernel
theorem dX0_copyFrom_48 : decode cX0_copyFrom 48 = .ok (.iload_n 3, 1) := by decide +kernel
theorem dX0_copyFrom_49 : decode cX0_copyFrom 49 = .ok (.invokevirtual 40, 3) := by decide +kernel
theorem dX0_copyFrom_52 : decode cX0_copyFrom 52 = .ok (.invokevirtual 43, 3) := by decide +kernel
theorem dX0_copyFrom_55 : decode cX0_copyFrom 55 = .ok (.iinc 3 1, 3) := by decide +kernel
theorem dX0_copyFrom_58 : decode cX0_copyFrom 58 = .ok (.goto (-27), 3) := by decide +kernel
theorem dX0_copyFrom_61 : decode cX0_copyFrom 61 = .ok (.aload_n 0, 1) := by decide +kernel
theorem dX0_copyFrom_62 : decode cX0_copyFrom 62 = .ok (.iload_n 2, 1) := by decide +kernel
theorem dX0_copyFrom_63 : decode cX0_copyFrom 63 = .ok (.aload_n 1, 1) := by decide +kernel
theorem dX0_copyFrom_64 : decode cX0_copyFrom 64 = .ok (.iload_n 2, 1) := by decide +kernel
theorem dX0_copyFrom_65 : decode cX0_copyFrom 65 = .ok (.invokevirtual 62, 3) := by decide +kernel
theorem dX0_copyFrom_68 : decode cX0_copyFrom 68 = .ok (.invokevirtual 69, 3) := by decide +kernel
theorem dX0_copyFrom_71 : decode cX0_copyFrom 71 = .ok (.iinc 2 1, 3) := by decide +kernel
theorem dX0_copyFrom_74 : decode cX0_copyFrom 74 = .ok (.goto (-72), 3) := by decide +kernel
theorem dX0_copyFrom_77 : decode cX0_copyFrom 77 = .ok (.return_, 1) := by decide +kernel
theorem dX1_init_0 : decode cX1_init 0 = .ok (.aload_n 0, 1) := by decide +kernel
theorem dX1_init_1 : decode cX1_init 1 = .ok (.invokespecial 3, 3) := by decide +kernel
theorem dX1_init_4 : decode cX1_init 4 = .ok (.aload_n 0, 1) := by decide +kernel
theorem dX1_init_5 : decode cX1_init 5 = .ok (.bipush 60, 2) := by decide +kernel
theorem dX1_init_7 : decode cX1_init 7 = .ok (.newarray .int, 2) := by decide +kernel
theorem dX1_init_9 : decode cX1_init 9 = .ok (.putfield 9, 3) := by decide +kernel
theorem dX1_init_12 : decode cX1_init 12 = .ok (.return_, 1) := by decide +kernel
theorem dX1_start_0 : decode cX1_start 0 = .ok (.aload_n 0, 1) := by decide +kernel
theorem dX1_start_1 : decode cX1_start 1 = .ok (.iconst 0, 1) := by decide +kernel
theorem dX1_start_2 : decode cX1_start 2 = .ok (.putfield 15, 3) := by decide +kernel
theorem dX1_start_5 : decode cX1_start 5 = .ok (.aload_n 0, 1) := by decide +kernel
theorem dX1_start_6 : decode cX1_start 6 = .ok (.iconst 0, 1) := by decide +kernel
theorem dX1_start_7 : decode cX1_start 7 = .ok (.putfield 19, 3) := by decide +kernel
theorem dX1_start_10 : decode cX1_start 10 = .ok (.aload_n 0, 1) := by decide +kernel
theorem dX1_start_11 : decode cX1_start 11 = .ok (.iconst 0, 1) := by decide +kernel
theorem dX1_start_12 : decode cX1_start 12 = .ok (.putfield 22, 3) := by decide +kernel
theorem dX1_start_15 : decode cX1_start 15 = .ok (.return_, 1) := by decide +kernel
theorem dX1_isComplete_0 : decode cX1_isComplete 0 = .ok (.aload_n 0, 1) := by decide +kernel
theorem dX1_isComplete_1 : decode cX1_isComplete 1 = .ok (.getfield 19, 3) := by decide +kernel
theorem dX1_isComplete_4 : decode cX1_isComplete 4 = .ok (.iconst 5, 1) := by decide +kernel
theorem dX1_isComplete_5 : decode cX1_isComplete 5 = .ok (.if_icmp .ne 14, 3) := by decide +kernel
theorem dX1_isComplete_8 : decode cX1_isComplete 8 = .ok (.aload_n 0, 1) := by decide +kernel
theorem dX1_isComplete_9 : decode cX1_isComplete 9 = .ok (.getfield 25, 3) := by decide +kernel
theorem dX1_isComplete_12 : decode cX1_isComplete 12 = .ok (.ifCond .le 7, 3) := by decide +kernel
theorem dX1_isComplete_15 : decode cX1_isComplete 15 = .ok (.iconst 1, 1) := by decide +kernel
theorem dX1_isComplete_16 : decode cX1_isComplete 16 = .ok (.goto 4, 3) := by decide +kernel
theorem dX1_isComplete_19 : decode cX1_isComplete 19 = .ok (.iconst 0, 1) := by decide +kernel
theorem dX1_isComplete_20 : decode cX1_isComplete 20 = .ok (.ireturn, 1) := by decide +kernel
set_option maxRecDepth 20000 in
theorem ggX1_tokenAt_X6_isIndex : GoodIn wsX1_tokenAt wsX6_isIndex := goodIn_r _ [4] (by decide +kernel) (by decide +kernel)
set_option maxRecDepth 20000 in
theorem gX1_tokenAt_X6_isIndex_n28 : GoodIn wsX1_tokenAt (wsX6_isIndex) := ggX1_tokenAt_X6_isIndex
theorem dX1_tokenAt_0 : decode cX1_tokenAt 0 = .ok (.iload_n 1, 1) := by decide +kernel
theorem dX1_tokenAt_1 : decode cX1_tokenAt 1 = .ok (.aload_n 0, 1) := by decide +kernel
theorem dX1_tokenAt_2 : decode cX1_tokenAt 2 = .ok (.getfield 9, 3) := by decide +kernel
theorem dX1_tokenAt_5 : decode cX1_tokenAt 5 = .ok (.invokestatic 28, 3) := by decide +kernel
theorem dX1_tokenAt_8 : decode cX1_tokenAt 8 = .ok (.ifCond .eq 12, 3) := by decide +kernel
theorem dX1_tokenAt_11 : decode cX1_tokenAt 11 = .ok (.aload_n 0, 1) := by decide +kernel
theorem dX1_tokenAt_12 : decode cX1_tokenAt 12 = .ok (.getfield 9, 3) := by decide +kernel
theorem dX1_tokenAt_15 : decode cX1_tokenAt 15 = .ok (.iload_n 1, 1) := by decide +kernel
theorem dX1_tokenAt_16 : decode cX1_tokenAt 16 = .ok (.iaload, 1) := by decide +kernel
theorem dX1_tokenAt_17 : decode cX1_tokenAt 17 = .ok (.goto 4, 3) := by decide +kernel
theorem dX1_tokenAt_20 : decode cX1_tokenAt 20 = .ok (.iconst 0, 1) := by decide +kernel
theorem dX1_tokenAt_21 : decode cX1_tokenAt 21 = .ok (.ireturn, 1) := by decide +kernel
set_option maxRecDepth 20000 in
theorem ggX1_accepts_X1_acceptsTerm : GoodIn wsX1_accepts wsX1_acceptsTerm := goodIn_r _ [6, 7, 8, 1, 9, 10, 11, 5, 12, 13, 14, 15, 16, 17, 18, 19, 20, 21, 22, 23, 24, 25, 26, 27, 28, 29, 30, 31, 32, 33, 34, 35, 36, 37, 38, 39, 40, 41, 42, 43, 44, 45, 46, 47, 48, 49, 50, 51, 52, 53, 54, 55, 56, 57, 58, 59, 60, 61, 62, 63, 64, 65, 66, 67, 68, 69, 70, 71, 72, 73, 74, 75, 76, 77, 78, 79, 80, 81, 82, 83, 84, 85, 86, 87, 88, 89, 90, 91, 92, 93, 94, 95, 96, 97, 98, 99, 100, 101, 102, 103, 104, 105, 106, 136, 137, 138, 139, 140, 141, 142, 143, 144] (by decide +kernel) (by decide +kernel)
set_option maxRecDepth 20000 in
theorem gX1_accepts_X1_acceptsTerm : GoodIn wsX1_accepts (wsV RX1 32 RX1 yX1_acceptsTerm wsX1_acceptsTerm) := goodIn_app (goodIn_of _ (by decide +kernel)) ggX1_accepts_X1_acceptsTerm
set_option maxRecDepth 20000 in
theorem ggX1_accepts_X1_acceptsRelation : GoodIn wsX1_accepts wsX1_acceptsRelation := goodIn_r _ [110, 111, 18, 19, 20, 21, 22, 23, 24, 25, 26, 27, 28, 29, 30, 31, 32, 33, 34, 35, 36, 37, 38, 39, 40, 41, 42, 43, 44, 45, 46, 47, 48, 49, 50, 51, 52, 53, 54, 55, 56, 57, 58, 59, 60, 61, 62, 63, 64, 65, 66, 67, 68, 69, 70, 71, 72, 73, 74, 75, 76, 77, 78, 79, 80, 81, 82, 83, 84, 85, 86, 87, 88, 89, 90, 91, 92, 93, 94, 95, 96, 97, 98, 99, 100, 101, 102, 103, 104, 105, 106, 112, 113, 114, 5, 115, 1, 116, 117, 136, 137, 138, 139, 140, 141, 142, 143, 144] (by decide +kernel) (by decide +kernel)
set_option maxRecDepth 20000 in
theorem gX1_accepts_X1_acceptsRelation : GoodIn wsX1_accepts (wsV RX1 36 RX1 yX1_acceptsRelation wsX1_acceptsRelation) := goodIn_app (goodIn_of _ (by decide +kernel)) ggX1_accepts_X1_acceptsRelation
set_option maxRecDepth 20000 in
theorem ggX1_accepts_X1_acceptsDigit : GoodIn wsX1_accepts wsX1_acceptsDigit := goodIn_r _ [121, 117, 116, 136, 137, 138, 139, 140, 141, 142, 143, 144] (by decide +kernel) (by decide +kernel)
set_option maxRecDepth 20000 in
theorem gX1_accepts_X1_acceptsDigit : GoodIn wsX1_accepts (wsV RX1 39 RX1 yX1_acceptsDigit wsX1_acceptsDigit) := goodIn_app (goodIn_of _ (by decide +kernel)) ggX1_accepts_X1_acceptsDigit
set_option maxRecDepth 20000 in
theorem ggX1_accepts_X1_acceptsLinkBehindNumber : GoodIn wsX1_accepts wsX1_acceptsLinkBehindNumber := goodIn_r _ [125, 117, 8, 111, 126, 116, 9, 10, 11, 5, 12, 13, 14, 15, 16, 17, 127, 128, 129, 130, 7, 1, 136, 137, 138, 139, 140, 141, 142, 143, 144] (by decide +kernel) (by decide +kernel)
set_option maxRecDepth 20000 in
theorem gX1_accepts_X1_acceptsLinkBehindNumber : GoodIn wsX1_accepts (wsV RX1 42 RX1 yX1_acceptsLinkBehindNumber wsX1_acceptsLinkBehindNumber) := goodIn_app (goodIn_of _ (by decide +kernel)) ggX1_accepts_X1_acceptsLinkBehindNumber
set_option maxRecDepth 20000 in
theorem ggX1_accepts_X1_acceptsLink : GoodIn wsX1_accepts wsX1_acceptsLink := goodIn_r _ [130, 7, 1, 9, 10, 11, 5, 12, 13, 14, 15, 16, 17, 136, 137, 138, 139, 140, 141, 142, 143, 144] (by decide +kernel) (by decide +kernel)
set_option maxRecDepth 20000 in
theorem gX1_accepts_X1_acceptsLink : GoodIn wsX1_accepts (wsV RX1 45 RX1 yX1_acceptsLink wsX1_acceptsLink) := goodIn_app (goodIn_of _ (by decide +kernel)) ggX1_accepts_X1_acceptsLink
set_option maxRecDepth 20000 in
theorem ggX1_accepts_X1_acceptsChange : GoodIn wsX1_accepts wsX1_acceptsChange := goodIn_r _ [134, 135, 112, 113, 114, 5, 115, 1, 116, 117, 136, 137, 138, 139, 140, 141, 142, 143, 144] (by decide +kernel) (by decide +kernel)
set_option maxRecDepth 20000 in
theorem gX1_accepts_X1_acceptsChange : GoodIn wsX1_accepts (wsV RX1 48 RX1 yX1_acceptsChange wsX1_acceptsChange) := goodIn_app (goodIn_of _ (by decide +kernel)) ggX1_accepts_X1_acceptsChange
theorem dX1_accepts_0 : decode cX1_accepts 0 = .ok (.aload_n 0, 1) := by decide +kernel
theorem dX1_accepts_1 : decode cX1_accepts 1 = .ok (.getfield 19, 3) := by decide +kernel
theorem dX1_accepts_4 : decode cX1_accepts 4 = .ok (.tableswitch 82 0 4 #[36, 42, 48, 70, 76], 36) := by decide +kernel
theorem dX1_accepts_40 : decode cX1_accepts 40 = .ok (.aload_n 0, 1) := by decide +kernel
theorem dX1_accepts_41 : decode cX1_accepts 41 = .ok (.iload_n 1, 1) := by decide +kernel
theorem dX1_accepts_42 : decode cX1_accepts 42 = .ok (.invokevirtual 32, 3) := by decide +kernel
theorem dX1_accepts_45 : decode cX1_accepts 45 = .ok (.ireturn, 1) := by decide +kernel
theorem dX1_accepts_46 : decode cX1_accepts 46 = .ok (.aload_n 0, 1) := by decide +kernel
theorem dX1_accepts_47 : decode cX1_accepts 47 = .ok (.iload_n 1, 1) := by decide +kernel
theorem dX1_accepts_48 : decode cX1_accepts 48 = .ok (.invokevirtual 36, 3) := by decide +kernel
theorem dX1_accepts_51 : decode cX1_accepts 51 = .ok (.ireturn, 1) := by decide +kernel
theorem dX1_accepts_52 : decode cX1_accepts 52 = .ok (.aload_n 0, 1) := by decide +kernel
theorem dX1_accepts_53 : decode cX1_accepts 53 = .ok (.iload_n 1, 1) := by decide +kernel
theorem dX1_accepts_54 : decode cX1_accepts 54 = .ok (.invokevirtual 39, 3) := by decide +kernel
theorem dX1_accepts_57 : decode cX1_accepts 57 = .ok (.ifCond .ne 11, 3) := by decide +kernel
theorem dX1_accepts_60 : decode cX1_accepts 60 = .ok (.aload_n 0, 1) := by decide +kernel
theorem dX1_accepts_61 : decode cX1_accepts 61 = .ok (.iload_n 1, 1) := by decide +kernel
theorem dX1_accepts_62 : decode cX1_accepts 62 = .ok (.invokevirtual 42, 3) := by decide +kernel
theorem dX1_accepts_65 : decode cX1_accepts 65 = .ok (.ifCond .eq 7, 3) := by decide +kernel
theorem dX1_accepts_68 : decode cX1_accepts 68 = .ok (.iconst 1, 1) := by decide +kernel
theorem dX1_accepts_69 : decode cX1_accepts 69 = .ok (.goto 4, 3) := by decide +kernel
theorem dX1_accepts_72 : decode cX1_accepts 72 = .ok (.iconst 0, 1) := by decide +kernel
theorem dX1_accepts_73 : decode cX1_accepts 73 = .ok (.ireturn, 1) := by decide +kernel
theorem dX1_accepts_74 : decode cX1_accepts 74 = .ok (.aload_n 0, 1) := by decide +kernel
theorem dX1_accepts_75 : decode cX1_accepts 75 = .ok (.iload_n 1, 1) := by decide +kernel
theorem dX1_accepts_76 : decode cX1_accepts 76 = .ok (.invokevirtual 45, 3) := by decide +kernel
theorem dX1_accepts_79 : decode cX1_accepts 79 = .ok (.ireturn, 1) := by decide +kernel
theorem dX1_accepts_80 : decode cX1_accepts 80 = .ok (.aload_n 0, 1) := by decide +kernel
theorem dX1_accepts_81 : decode cX1_accepts 81 = .ok (.iload_n 1, 1) := by decide +kernel
theorem dX1_accepts_82 : decode cX1_accepts 82 = .ok (.invokevirtual 48, 3) := by decide +kernel
theorem dX1_accepts_85 : decode cX1_accepts 85 = .ok (.ireturn, 1) := by decide +kernel
theorem dX1_accepts_86 : decode cX1_accepts 86 = .ok (.aload_n 0, 1) := by decide +kernel
theorem dX1_accepts_87 : decode cX1_accepts 87 = .ok (.iload_n 1, 1) := by decide +kernel
theorem dX1_accepts_88 : decode cX1_accepts 88 = .ok (.invokevirtual 39, 3) := by decide +kernel
theorem dX1_accepts_91 : decode cX1_accepts 91 = .ok (.ireturn, 1) := by decide +kernel
set_option maxRecDepth 20000 in
theorem ggX1_acceptsTerm_X1_addToken : GoodIn wsX1_acceptsTerm wsX1_addToken := goodIn_r _ [8, 9, 10, 11, 12, 13, 103, 104, 105, 106, 107, 108, 109, 110, 111] (by decide +kernel) (by decide +kernel)
set_option maxRecDepth 20000 in
theorem gX1_acceptsTerm_X1_addToken : GoodIn wsX1_acceptsTerm (wsV RX1 51 RX1 yX1_addToken wsX1_addToken) := goodIn_app (goodIn_of _ (by decide +kernel)) ggX1_acceptsTerm_X1_addToken
set_option maxRecDepth 20000 in
theorem ggX1_acceptsTerm_J0_indexOf_0f7a4 : GoodIn wsX1_acceptsTerm wsJ0_indexOf_0f7a4 := goodIn_r _ [18, 19, 20, 21, 17, 22, 23, 24, 25, 26, 27, 28, 29, 30, 31, 32, 33, 34, 35, 36, 37, 38, 39, 40, 41, 42, 43, 44, 45, 46, 47, 48, 49, 50, 51, 52, 53, 54, 55, 56, 57, 58, 59, 60, 61, 62, 63, 64, 65, 66, 67, 68, 69, 70, 71, 72, 73, 74, 75, 76, 77, 78, 79, 80, 81, 82, 83, 84, 85, 86, 87, 88, 89, 90, 91, 92, 93, 94, 95, 96, 97, 98, 99, 100, 101, 102] (by decide +kernel) (by decide +kernel)
set_option maxRecDepth 20000 in
theorem gX1_acceptsTerm_J0_indexOf_0f7a4 : GoodIn wsX1_acceptsTerm (wsV RX1 57 RJ0 yJ0_indexOf_0f7a4 wsJ0_indexOf_0f7a4) := goodIn_app (goodIn_of _ (by decide +kernel)) ggX1_acceptsTerm_J0_indexOf_0f7a4
theorem dX1_acceptsTerm_0 : decode cX1_acceptsTerm 0 = .ok (.iload_n 1, 1) := by decide +kernel
theorem dX1_acceptsTerm_1 : decode cX1_acceptsTerm 1 = .ok (.bipush 126, 2) := by decide +kernel
theorem dX1_acceptsTerm_3 : decode cX1_acceptsTerm 3 = .ok (.if_icmp .eq 9, 3) := by decide +kernel
theorem dX1_acceptsTerm_6 : decode cX1_acceptsTerm 6 = .ok (.iload_n 1, 1) := by decide +kernel
theorem dX1_acceptsTerm_7 : decode cX1_acceptsTerm 7 = .ok (.bipush 40, 2) := by decide +kernel
theorem dX1_acceptsTerm_9 : decode cX1_acceptsTerm 9 = .ok (.if_icmp .ne 31, 3) := by decide +kernel
theorem dX1_acceptsTerm_12 : decode cX1_acceptsTerm 12 = .ok (.aload_n 0, 1) := by decide +kernel
theorem dX1_acceptsTerm_13 : decode cX1_acceptsTerm 13 = .ok (.dup, 1) := by decide +kernel
theorem dX1_acceptsTerm_14 : decode cX1_acceptsTerm 14 = .ok (.getfield 22, 3) := by decide +kernel
theorem dX1_acceptsTerm_17 : decode cX1_acceptsTerm 17 = .ok (.iload_n 1, 1) := by decide +kernel
theorem dX1_acceptsTerm_18 : decode cX1_acceptsTerm 18 = .ok (.bipush 40, 2) := by decide +kernel
theorem dX1_acceptsTerm_20 : decode cX1_acceptsTerm 20 = .ok (.if_icmp .ne 7, 3) := by decide +kernel
theorem dX1_acceptsTerm_23 : decode cX1_acceptsTerm 23 = .ok (.iconst 1, 1) := by decide +kernel
theorem dX1_acceptsTerm_24 : decode cX1_acceptsTerm 24 = .ok (.goto 4, 3) := by decide +kernel
theorem dX1_acceptsTerm_27 : decode cX1_acceptsTerm 27 = .ok (.iconst 0, 1) := by decide +kernel
theorem dX1_acceptsTerm_28 : decode cX1_acceptsTerm 28 = .ok (.iadd, 1) := by decide +kernel
theorem dX1_acceptsTerm_29 : decode cX1_acceptsTerm 29 = .ok (.putfield 22, 3) := by decide +kernel
theorem dX1_acceptsTerm_32 : decode cX1_acceptsTerm 32 = .ok (.aload_n 0, 1) := by decide +kernel
theorem dX1_acceptsTerm_33 : decode cX1_acceptsTerm 33 = .ok (.iload_n 1, 1) := by decide +kernel
theorem dX1_acceptsTerm_34 : decode cX1_acceptsTerm 34 = .ok (.ineg, 1) := by decide +kernel
theorem dX1_acceptsTerm_35 : decode cX1_acceptsTerm 35 = .ok (.invokevirtual 51, 3) := by decide +kernel
theorem dX1_acceptsTerm_38 : decode cX1_acceptsTerm 38 = .ok (.iconst 1, 1) := by decide +kernel
theorem dX1_acceptsTerm_39 : decode cX1_acceptsTerm 39 = .ok (.ireturn, 1) := by decide +kernel
theorem dX1_acceptsTerm_40 : decode cX1_acceptsTerm 40 = .ok (.aload_n 0, 1) := by decide +kernel
theorem dX1_acceptsTerm_41 : decode cX1_acceptsTerm 41 = .ok (.ldc 55, 2) := by decide +kernel
theorem dX1_acceptsTerm_43 : decode cX1_acceptsTerm 43 = .ok (.iload_n 1, 1) := by decide +kernel
theorem dX1_acceptsTerm_44 : decode cX1_acceptsTerm 44 = .ok (.i2c, 1) := by decide +kernel
theorem dX1_acceptsTerm_45 : decode cX1_acceptsTerm 45 = .ok (.invokevirtual 57, 3) := by decide +kernel
theorem dX1_acceptsTerm_48 : decode cX1_acceptsTerm 48 = .ok (.putfield 63, 3) := by decide +kernel
theorem dX1_acceptsTerm_51 : decode cX1_acceptsTerm 51 = .ok (.aload_n 0, 1) := by decide +kernel
theorem dX1_acceptsTerm_52 : decode cX1_acceptsTerm 52 = .ok (.iconst 1, 1) := by decide +kernel
theorem dX1_acceptsTerm_53 : decode cX1_acceptsTerm 53 = .ok (.putfield 19, 3) := by decide +kernel
theorem dX1_acceptsTerm_56 : decode cX1_acceptsTerm 56 = .ok (.aload_n 0, 1) := by decide +kernel
theorem dX1_acceptsTerm_57 : decode cX1_acceptsTerm 57 = .ok (.getfield 63, 3) := by decide +kernel
theorem dX1_acceptsTerm_60 : decode cX1_acceptsTerm 60 = .ok (.ifCond .lt 7, 3) := by decide +kernel
theorem dX1_acceptsTerm_63 : decode cX1_acceptsTerm 63 = .ok (.iconst 1, 1) := by decide +kernel
theorem dX1_acceptsTerm_64 : decode cX1_acceptsTerm 64 = .ok (.goto 4, 3) := by decide +kernel
theorem dX1_acceptsTerm_67 : decode cX1_acceptsTerm 67 = .ok (.iconst 0, 1) := by decide +kernel
theorem dX1_acceptsTerm_68 : decode cX1_acceptsTerm 68 = .ok (.ireturn, 1) := by decide +kernel
set_option maxRecDepth 20000 in
theorem ggX1_acceptsRelation_J0_indexOf_0f7a4 : GoodIn wsX1_acceptsRelation wsJ0_indexOf_0f7a4 := goodIn_r _ [6, 7, 8, 9, 5, 10, 11, 12, 13, 14, 15, 16, 17, 18, 19, 20, 21, 22, 23, 24, 25, 26, 27, 28, 29, 30, 31, 32, 33, 34, 35, 36, 37, 38, 39, 40, 41, 42, 43, 44, 45, 46, 47, 48, 49, 50, 51, 52, 53, 54, 55, 56, 57, 58, 59, 60, 61, 62, 63, 64, 65, 66, 67, 68, 69, 70, 71, 72, 73, 74, 75, 76, 77, 78, 79, 80, 81, 82, 83, 84, 85, 86, 87, 88, 89, 90] (by decide +kernel) (by decide +kernel)
set_option maxRecDepth 20000 in
theorem gX1_acceptsRelation_J0_indexOf_0f7a4 : GoodIn wsX1_acceptsRelation (wsV RX1 57 RJ0 yJ0_indexOf_0f7a4 wsJ0_indexOf_0f7a4) := goodIn_app (goodIn_of _ (by decide +kernel)) ggX1_acceptsRelation_J0_indexOf_0f7a4
set_option maxRecDepth 20000 in
theorem ggX1_acceptsRelation_X1_startNumber : GoodIn wsX1_acceptsRelation wsX1_startNumber := goodIn_r _ [95, 96, 97, 98, 99, 100, 101, 102, 103, 104, 105, 106, 107] (by decide +kernel) (by decide +kernel)
set_option maxRecDepth 20000 in
theorem gX1_acceptsRelation_X1_startNumber : GoodIn wsX1_acceptsRelation (wsV RX1 71 RX1 yX1_startNumber wsX1_startNumber) := goodIn_app (goodIn_of _ (by decide +kernel)) ggX1_acceptsRelation_X1_startNumber
theorem dX1_acceptsRelation_0 : decode cX1_acceptsRelation 0 = .ok (.aload_n 0, 1) := by decide +kernel
theorem dX1_acceptsRelation_1 : decode cX1_acceptsRelation 1 = .ok (.ldc 66, 2) := by decide +kernel
theorem dX1_acceptsRelation_3 : decode cX1_acceptsRelation 3 = .ok (.iload_n 1, 1) := by decide +kernel
theorem dX1_acceptsRelation_4 : decode cX1_acceptsRelation 4 = .ok (.i2c, 1) := by decide +kernel
theorem dX1_acceptsRelation_5 : decode cX1_acceptsRelation 5 = .ok (.invokevirtual 57, 3) := by decide +kernel
theorem dX1_acceptsRelation_8 : decode cX1_acceptsRelation 8 = .ok (.putfield 68, 3) := by decide +kernel
theorem dX1_acceptsRelation_11 : decode cX1_acceptsRelation 11 = .ok (.aload_n 0, 1) := by decide +kernel
theorem dX1_acceptsRelation_12 : decode cX1_acceptsRelation 12 = .ok (.iconst 2, 1) := by decide +kernel
theorem dX1_acceptsRelation_13 : decode cX1_acceptsRelation 13 = .ok (.invokevirtual 71, 3) := by decide +kernel
theorem dX1_acceptsRelation_16 : decode cX1_acceptsRelation 16 = .ok (.aload_n 0, 1) := by decide +kernel
theorem dX1_acceptsRelation_17 : decode cX1_acceptsRelation 17 = .ok (.getfield 68, 3) := by decide +kernel
theorem dX1_acceptsRelation_20 : decode cX1_acceptsRelation 20 = .ok (.ifCond .lt 7, 3) := by decide +kernel
theorem dX1_acceptsRelation_23 : decode cX1_acceptsRelation 23 = .ok (.iconst 1, 1) := by decide +kernel
theorem dX1_acceptsRelation_24 : decode cX1_acceptsRelation 24 = .ok (.goto 4, 3) := by decide +kernel
theorem dX1_acceptsRelation_27 : decode cX1_acceptsRelation 27 = .ok (.iconst 0, 1) := by decide +kernel
theorem dX1_acceptsRelation_28 : decode cX1_acceptsRelation 28 = .ok (.ireturn, 1) := by decide +kernel
theorem dX1_acceptsDigit_0 : decode cX1_acceptsDigit 0 = .ok (.iload_n 1, 1) := by decide +kernel
theorem dX1_acceptsDigit_1 : decode cX1_acceptsDigit 1 = .ok (.bipush 48, 2) := by decide +kernel
theorem dX1_acceptsDigit_3 : decode cX1_acceptsDigit 3 = .ok (.if_icmp .lt 17, 3) := by decide +kernel
theorem dX1_acceptsDigit_6 : decode cX1_acceptsDigit 6 = .ok (.iload_n 1, 1) := by decide +kernel
theorem dX1_acceptsDigit_7 : decode cX1_acceptsDigit 7 = .ok (.bipush 57, 2) := by decide +kernel
theorem dX1_acceptsDigit_9 : decode cX1_acceptsDigit 9 = .ok (.if_icmp .gt 11, 3) := by decide +kernel
theorem dX1_acceptsDigit_12 : decode cX1_acceptsDigit 12 = .ok (.aload_n 0, 1) := by decide +kernel
theorem dX1_acceptsDigit_13 : decode cX1_acceptsDigit 13 = .ok (.getfield 25, 3) := by decide +kernel
theorem dX1_acceptsDigit_16 : decode cX1_acceptsDigit 16 = .ok (.iconst 5, 1) := by decide +kernel
theorem dX1_acceptsDigit_17 : decode cX1_acceptsDigit 17 = .ok (.if_icmp .lt 5, 3) := by decide +kernel
theorem dX1_acceptsDigit_20 : decode cX1_acceptsDigit 20 = .ok (.iconst 0, 1) := by decide +kernel
theorem dX1_acceptsDigit_21 : decode cX1_acceptsDigit 21 = .ok (.ireturn, 1) := by decide +kernel
theorem dX1_acceptsDigit_22 : decode cX1_acceptsDigit 22 = .ok (.aload_n 0, 1) := by decide +kernel
theorem dX1_acceptsDigit_23 : decode cX1_acceptsDigit 23 = .ok (.aload_n 0, 1) := by decide +kernel
theorem dX1_acceptsDigit_24 : decode cX1_acceptsDigit 24 = .ok (.getfield 74, 3) := by decide +kernel
theorem dX1_acceptsDigit_27 : decode cX1_acceptsDigit 27 = .ok (.bipush 10, 2) := by decide +kernel
theorem dX1_acceptsDigit_29 : decode cX1_acceptsDigit 29 = .ok (.imul, 1) := by decide +kernel
theorem dX1_acceptsDigit_30 : decode cX1_acceptsDigit 30 = .ok (.iload_n 1, 1) := by decide +kernel
theorem dX1_acceptsDigit_31 : decode cX1_acceptsDigit 31 = .ok (.iadd, 1) := by decide +kernel
theorem dX1_acceptsDigit_32 : decode cX1_acceptsDigit 32 = .ok (.bipush 48, 2) := by decide +kernel
theorem dX1_acceptsDigit_34 : decode cX1_acceptsDigit 34 = .ok (.isub, 1) := by decide +kernel
theorem dX1_acceptsDigit_35 : decode cX1_acceptsDigit 35 = .ok (.putfield 74, 3) := by decide +kernel
theorem dX1_acceptsDigit_38 : decode cX1_acceptsDigit 38 = .ok (.aload_n 0, 1) := by decide +kernel
theorem dX1_acceptsDigit_39 : decode cX1_acceptsDigit 39 = .ok (.dup, 1) := by decide +kernel
theorem dX1_acceptsDigit_40 : decode cX1_acceptsDigit 40 = .ok (.getfield 25, 3) := by decide +kernel
theorem dX1_acceptsDigit_43 : decode cX1_acceptsDigit 43 = .ok (.iconst 1, 1) := by decide +kernel
theorem dX1_acceptsDigit_44 : decode cX1_acceptsDigit 44 = .ok (.iadd, 1) := by decide +kernel
theorem dX1_acceptsDigit_45 : decode cX1_acceptsDigit 45 = .ok (.putfield 25, 3) := by decide +kernel
theorem dX1_acceptsDigit_48 : decode cX1_acceptsDigit 48 = .ok (.iconst 1, 1) := by decide +kernel
theorem dX1_acceptsDigit_49 : decode cX1_acceptsDigit 49 = .ok (.ireturn, 1) := by decide +kernel
set_option maxRecDepth 20000 in
theorem ggX1_acceptsLinkBehindNumber_X1_addToken : GoodIn wsX1_acceptsLinkBehindNumber wsX1_addToken := goodIn_r _ [10, 11, 12, 13, 14, 15, 22, 23, 24, 25, 26, 27, 28, 29, 30] (by decide +kernel) (by decide +kernel)
set_option maxRecDepth 20000 in
theorem gX1_acceptsLinkBehindNumber_X1_addToken : GoodIn wsX1_acceptsLinkBehindNumber (wsV RX1 51 RX1 yX1_addToken wsX1_addToken) := goodIn_app (goodIn_of _ (by decide +kernel)) ggX1_acceptsLinkBehindNumber_X1_addToken
set_option maxRecDepth 20000 in
theorem ggX1_acceptsLinkBehindNumber_X1_acceptsLink : GoodIn wsX1_acceptsLinkBehindNumber wsX1_acceptsLink := goodIn_r _ [19, 20, 21, 6, 7, 8, 9, 10, 11, 12, 13, 14, 15, 22, 23, 24, 25, 26, 27, 28, 29, 30] (by decide +kernel) (by decide +kernel)
set_option maxRecDepth 20000 in
theorem gX1_acceptsLinkBehindNumber_X1_acceptsLink : GoodIn wsX1_acceptsLinkBehindNumber (wsV RX1 45 RX1 yX1_acceptsLink wsX1_acceptsLink) := goodIn_app (goodIn_of _ (by decide +kernel)) ggX1_acceptsLinkBehindNumber_X1_acceptsLink
theorem dX1_acceptsLinkBehindNumber_0 : decode cX1_acceptsLinkBehindNumber 0 = .ok (.aload_n 0, 1) := by decide +kernel
theorem dX1_acceptsLinkBehindNumber_1 : decode cX1_acceptsLinkBehindNumber 1 = .ok (.getfield 25, 3) := by decide +kernel
theorem dX1_acceptsLinkBehindNumber_4 : decode cX1_acceptsLinkBehindNumber 4 = .ok (.ifCond .ne 5, 3) := by decide +kernel
theorem dX1_acceptsLinkBehindNumber_7 : decode cX1_acceptsLinkBehindNumber 7 = .ok (.iconst 0, 1) := by decide +kernel
theorem dX1_acceptsLinkBehindNumber_8 : decode cX1_acceptsLinkBehindNumber 8 = .ok (.ireturn, 1) := by decide +kernel
theorem dX1_acceptsLinkBehindNumber_9 : decode cX1_acceptsLinkBehindNumber 9 = .ok (.aload_n 0, 1) := by decide +kernel
theorem dX1_acceptsLinkBehindNumber_10 : decode cX1_acceptsLinkBehindNumber 10 = .ok (.aload_n 0, 1) := by decide +kernel
theorem dX1_acceptsLinkBehindNumber_11 : decode cX1_acceptsLinkBehindNumber 11 = .ok (.getfield 63, 3) := by decide +kernel
theorem dX1_acceptsLinkBehindNumber_14 : decode cX1_acceptsLinkBehindNumber 14 = .ok (.iconst 3, 1) := by decide +kernel
theorem dX1_acceptsLinkBehindNumber_15 : decode cX1_acceptsLinkBehindNumber 15 = .ok (.imul, 1) := by decide +kernel
theorem dX1_acceptsLinkBehindNumber_16 : decode cX1_acceptsLinkBehindNumber 16 = .ok (.aload_n 0, 1) := by decide +kernel
theorem dX1_acceptsLinkBehindNumber_17 : decode cX1_acceptsLinkBehindNumber 17 = .ok (.getfield 68, 3) := by decide +kernel
theorem dX1_acceptsLinkBehindNumber_20 : decode cX1_acceptsLinkBehindNumber 20 = .ok (.iadd, 1) := by decide +kernel
theorem dX1_acceptsLinkBehindNumber_21 : decode cX1_acceptsLinkBehindNumber 21 = .ok (.ldc 77, 2) := by decide +kernel
theorem dX1_acceptsLinkBehindNumber_23 : decode cX1_acceptsLinkBehindNumber 23 = .ok (.imul, 1) := by decide +kernel
theorem dX1_acceptsLinkBehindNumber_24 : decode cX1_acceptsLinkBehindNumber 24 = .ok (.aload_n 0, 1) := by decide +kernel
theorem dX1_acceptsLinkBehindNumber_25 : decode cX1_acceptsLinkBehindNumber 25 = .ok (.getfield 74, 3) := by decide +kernel
theorem dX1_acceptsLinkBehindNumber_28 : decode cX1_acceptsLinkBehindNumber 28 = .ok (.iadd, 1) := by decide +kernel
theorem dX1_acceptsLinkBehindNumber_29 : decode cX1_acceptsLinkBehindNumber 29 = .ok (.invokevirtual 51, 3) := by decide +kernel
theorem dX1_acceptsLinkBehindNumber_32 : decode cX1_acceptsLinkBehindNumber 32 = .ok (.aload_n 0, 1) := by decide +kernel
theorem dX1_acceptsLinkBehindNumber_33 : decode cX1_acceptsLinkBehindNumber 33 = .ok (.iload_n 1, 1) := by decide +kernel
theorem dX1_acceptsLinkBehindNumber_34 : decode cX1_acceptsLinkBehindNumber 34 = .ok (.invokevirtual 45, 3) := by decide +kernel
theorem dX1_acceptsLinkBehindNumber_37 : decode cX1_acceptsLinkBehindNumber 37 = .ok (.ireturn, 1) := by decide +kernel
set_option maxRecDepth 20000 in
theorem ggX1_acceptsLink_X1_addToken : GoodIn wsX1_acceptsLink wsX1_addToken := goodIn_r _ [7, 8, 9, 10, 11, 12, 13, 14, 15, 16, 17, 18, 19, 20, 21] (by decide +kernel) (by decide +kernel)
set_option maxRecDepth 20000 in
theorem gX1_acceptsLink_X1_addToken : GoodIn wsX1_acceptsLink (wsV RX1 51 RX1 yX1_addToken wsX1_addToken) := goodIn_app (goodIn_of _ (by decide +kernel)) ggX1_acceptsLink_X1_addToken
theorem dX1_acceptsLink_0 : decode cX1_acceptsLink 0 = .ok (.iload_n 1, 1) := by decide +kernel
theorem dX1_acceptsLink_1 : decode cX1_acceptsLink 1 = .ok (.bipush 63, 2) := by decide +kernel
theorem dX1_acceptsLink_3 : decode cX1_acceptsLink 3 = .ok (.if_icmp .ne 17, 3) := by decide +kernel
theorem dX1_acceptsLink_6 : decode cX1_acceptsLink 6 = .ok (.aload_n 0, 1) := by decide +kernel
theorem dX1_acceptsLink_7 : decode cX1_acceptsLink 7 = .ok (.getfield 22, 3) := by decide +kernel
theorem dX1_acceptsLink_10 : decode cX1_acceptsLink 10 = .ok (.ifCond .ne 10, 3) := by decide +kernel
theorem dX1_acceptsLink_13 : decode cX1_acceptsLink 13 = .ok (.aload_n 0, 1) := by decide +kernel
theorem dX1_acceptsLink_14 : decode cX1_acceptsLink 14 = .ok (.iconst 4, 1) := by decide +kernel
theorem dX1_acceptsLink_15 : decode cX1_acceptsLink 15 = .ok (.putfield 19, 3) := by decide +kernel
theorem dX1_acceptsLink_18 : decode cX1_acceptsLink 18 = .ok (.iconst 1, 1) := by decide +kernel
theorem dX1_acceptsLink_19 : decode cX1_acceptsLink 19 = .ok (.ireturn, 1) := by decide +kernel
theorem dX1_acceptsLink_20 : decode cX1_acceptsLink 20 = .ok (.iload_n 1, 1) := by decide +kernel
theorem dX1_acceptsLink_21 : decode cX1_acceptsLink 21 = .ok (.bipush 41, 2) := by decide +kernel
theorem dX1_acceptsLink_23 : decode cX1_acceptsLink 23 = .ok (.if_icmp .ne 28, 3) := by decide +kernel
theorem dX1_acceptsLink_26 : decode cX1_acceptsLink 26 = .ok (.aload_n 0, 1) := by decide +kernel
theorem dX1_acceptsLink_27 : decode cX1_acceptsLink 27 = .ok (.getfield 22, 3) := by decide +kernel
theorem dX1_acceptsLink_30 : decode cX1_acceptsLink 30 = .ok (.ifCond .le 21, 3) := by decide +kernel
theorem dX1_acceptsLink_33 : decode cX1_acceptsLink 33 = .ok (.aload_n 0, 1) := by decide +kernel
theorem dX1_acceptsLink_34 : decode cX1_acceptsLink 34 = .ok (.dup, 1) := by decide +kernel
theorem dX1_acceptsLink_35 : decode cX1_acceptsLink 35 = .ok (.getfield 22, 3) := by decide +kernel
theorem dX1_acceptsLink_38 : decode cX1_acceptsLink 38 = .ok (.iconst 1, 1) := by decide +kernel
theorem dX1_acceptsLink_39 : decode cX1_acceptsLink 39 = .ok (.isub, 1) := by decide +kernel
theorem dX1_acceptsLink_40 : decode cX1_acceptsLink 40 = .ok (.putfield 22, 3) := by decide +kernel
theorem dX1_acceptsLink_43 : decode cX1_acceptsLink 43 = .ok (.aload_n 0, 1) := by decide +kernel
theorem dX1_acceptsLink_44 : decode cX1_acceptsLink 44 = .ok (.iconst 3, 1) := by decide +kernel
theorem dX1_acceptsLink_45 : decode cX1_acceptsLink 45 = .ok (.putfield 19, 3) := by decide +kernel
theorem dX1_acceptsLink_48 : decode cX1_acceptsLink 48 = .ok (.goto 25, 3) := by decide +kernel
theorem dX1_acceptsLink_51 : decode cX1_acceptsLink 51 = .ok (.iload_n 1, 1) := by decide +kernel
theorem dX1_acceptsLink_52 : decode cX1_acceptsLink 52 = .ok (.bipush 38, 2) := by decide +kernel
theorem dX1_acceptsLink_54 : decode cX1_acceptsLink 54 = .ok (.if_icmp .eq 9, 3) := by decide +kernel
theorem dX1_acceptsLink_57 : decode cX1_acceptsLink 57 = .ok (.iload_n 1, 1) := by decide +kernel
theorem dX1_acceptsLink_58 : decode cX1_acceptsLink 58 = .ok (.bipush 124, 2) := by decide +kernel
theorem dX1_acceptsLink_60 : decode cX1_acceptsLink 60 = .ok (.if_icmp .ne 11, 3) := by decide +kernel
theorem dX1_acceptsLink_63 : decode cX1_acceptsLink 63 = .ok (.aload_n 0, 1) := by decide +kernel
theorem dX1_acceptsLink_64 : decode cX1_acceptsLink 64 = .ok (.iconst 0, 1) := by decide +kernel
theorem dX1_acceptsLink_65 : decode cX1_acceptsLink 65 = .ok (.putfield 19, 3) := by decide +kernel
theorem dX1_acceptsLink_68 : decode cX1_acceptsLink 68 = .ok (.goto 5, 3) := by decide +kernel
theorem dX1_acceptsLink_71 : decode cX1_acceptsLink 71 = .ok (.iconst 0, 1) := by decide +kernel
theorem dX1_acceptsLink_72 : decode cX1_acceptsLink 72 = .ok (.ireturn, 1) := by decide +kernel
theorem dX1_acceptsLink_73 : decode cX1_acceptsLink 73 = .ok (.aload_n 0, 1) := by decide +kernel
theorem dX1_acceptsLink_74 : decode cX1_acceptsLink 74 = .ok (.iload_n 1, 1) := by decide +kernel
theorem dX1_acceptsLink_75 : decode cX1_acceptsLink 75 = .ok (.ineg, 1) := by decide +kernel
theorem dX1_acceptsLink_76 : decode cX1_acceptsLink 76 = .ok (.invokevirtual 51, 3) := by decide +kernel
theorem dX1_acceptsLink_79 : decode cX1_acceptsLink 79 = .ok (.iconst 1, 1) := by decide +kernel
theorem dX1_acceptsLink_80 : decode cX1_acceptsLink 80 = .ok (.ireturn, 1) := by decide +kernel
set_option maxRecDepth 20000 in
theorem ggX1_acceptsChange_X1_startNumber : GoodIn wsX1_acceptsChange wsX1_startNumber := goodIn_r _ [6, 7, 8, 9, 10, 11, 12, 13, 14, 15, 16, 17, 18] (by decide +kernel) (by decide +kernel)
set_option maxRecDepth 20000 in
theorem gX1_acceptsChange_X1_startNumber : GoodIn wsX1_acceptsChange (wsV RX1 71 RX1 yX1_startNumber wsX1_startNumber) := goodIn_app (goodIn_of _ (by decide +kernel)) ggX1_acceptsChange_X1_startNumber
theorem dX1_acceptsChange_0 : decode cX1_acceptsChange 0 = .ok (.aload_n 0, 1) := by decide +kernel
theorem dX1_acceptsChange_1 : decode cX1_acceptsChange 1 = .ok (.iload_n 1, 1) := by decide +kernel
theorem dX1_acceptsChange_2 : decode cX1_acceptsChange 2 = .ok (.putfield 78, 3) := by decide +kernel
theorem dX1_acceptsChange_5 : decode cX1_acceptsChange 5 = .ok (.aload_n 0, 1) := by decide +kernel
theorem dX1_acceptsChange_6 : decode cX1_acceptsChange 6 = .ok (.iconst 5, 1) := by decide +kernel
theorem dX1_acceptsChange_7 : decode cX1_acceptsChange 7 = .ok (.invokevirtual 71, 3) := by decide +kernel
theorem dX1_acceptsChange_10 : decode cX1_acceptsChange 10 = .ok (.iload_n 1, 1) := by decide +kernel
theorem dX1_acceptsChange_11 : decode cX1_acceptsChange 11 = .ok (.bipush 43, 2) := by decide +kernel
theorem dX1_acceptsChange_13 : decode cX1_acceptsChange 13 = .ok (.if_icmp .eq 15, 3) := by decide +kernel
theorem dX1_acceptsChange_16 : decode cX1_acceptsChange 16 = .ok (.iload_n 1, 1) := by decide +kernel
theorem dX1_acceptsChange_17 : decode cX1_acceptsChange 17 = .ok (.bipush 45, 2) := by decide +kernel
theorem dX1_acceptsChange_19 : decode cX1_acceptsChange 19 = .ok (.if_icmp .eq 9, 3) := by decide +kernel
theorem dX1_acceptsChange_22 : decode cX1_acceptsChange 22 = .ok (.iload_n 1, 1) := by decide +kernel
theorem dX1_acceptsChange_23 : decode cX1_acceptsChange 23 = .ok (.bipush 42, 2) := by decide +kernel
theorem dX1_acceptsChange_25 : decode cX1_acceptsChange 25 = .ok (.if_icmp .ne 7, 3) := by decide +kernel
theorem dX1_acceptsChange_28 : decode cX1_acceptsChange 28 = .ok (.iconst 1, 1) := by decide +kernel
theorem dX1_acceptsChange_29 : decode cX1_acceptsChange 29 = .ok (.goto 4, 3) := by decide +kernel
theorem dX1_acceptsChange_32 : decode cX1_acceptsChange 32 = .ok (.iconst 0, 1) := by decide +kernel
theorem dX1_acceptsChange_33 : decode cX1_acceptsChange 33 = .ok (.ireturn, 1) := by decide +kernel
theorem dX1_startNumber_0 : decode cX1_startNumber 0 = .ok (.aload_n 0, 1) := by decide +kernel
theorem dX1_startNumber_1 : decode cX1_startNumber 1 = .ok (.iload_n 1, 1) := by decide +kernel
theorem dX1_startNumber_2 : decode cX1_startNumber 2 = .ok (.putfield 19, 3) := by decide +kernel
theorem dX1_startNumber_5 : decode cX1_startNumber 5 = .ok (.aload_n 0, 1) := by decide +kernel
theorem dX1_startNumber_6 : decode cX1_startNumber 6 = .ok (.iconst 0, 1) := by decide +kernel
theorem dX1_startNumber_7 : decode cX1_startNumber 7 = .ok (.putfield 74, 3) := by decide +kernel
theorem dX1_startNumber_10 : decode cX1_startNumber 10 = .ok (.aload_n 0, 1) := by decide +kernel
theorem dX1_startNumber_11 : decode cX1_startNumber 11 = .ok (.iconst 0, 1) := by decide +kernel
theorem dX1_startNumber_12 : decode cX1_startNumber 12 = .ok (.putfield 25, 3) := by decide +kernel
theorem dX1_startNumber_15 : decode cX1_startNumber 15 = .ok (.return_, 1) := by decide +kernel
set_option maxRecDepth 20000 in
theorem ggX1_addToken_X6_isIndex : GoodIn wsX1_addToken wsX6_isIndex := goodIn_r _ [5] (by decide +kernel) (by decide +kernel)
set_option maxRecDepth 20000 in
theorem gX1_addToken_X6_isIndex_n28 : GoodIn wsX1_addToken (wsX6_isIndex) := ggX1_addToken_X6_isIndex
theorem dX1_addToken_0 : decode cX1_addToken 0 = .ok (.aload_n 0, 1) := by decide +kernel
theorem dX1_addToken_1 : decode cX1_addToken 1 = .ok (.getfield 15, 3) := by decide +kernel
theorem dX1_addToken_4 : decode cX1_addToken 4 = .ok (.aload_n 0, 1) := by decide +kernel
theorem dX1_addToken_5 : decode cX1_addToken 5 = .ok (.getfield 9, 3) := by decide +kernel
theorem dX1_addToken_8 : decode cX1_addToken 8 = .ok (.invokestatic 28, 3) := by decide +kernel
theorem dX1_addToken_11 : decode cX1_addToken 11 = .ok (.ifCond .eq 23, 3) := by decide +kernel
theorem dX1_addToken_14 : decode cX1_addToken 14 = .ok (.aload_n 0, 1) := by decide +kernel
theorem dX1_addToken_15 : decode cX1_addToken 15 = .ok (.getfield 9, 3) := by decide +kernel
theorem dX1_addToken_18 : decode cX1_addToken 18 = .ok (.aload_n 0, 1) := by decide +kernel
theorem dX1_addToken_19 : decode cX1_addToken 19 = .ok (.getfield 15, 3) := by decide +kernel
theorem dX1_addToken_22 : decode cX1_addToken 22 = .ok (.iload_n 1, 1) := by decide +kernel
theorem dX1_addToken_23 : decode cX1_addToken 23 = .ok (.iastore, 1) := by decide +kernel
theorem dX1_addToken_24 : decode cX1_addToken 24 = .ok (.aload_n 0, 1) := by decide +kernel
theorem dX1_addToken_25 : decode cX1_addToken 25 = .ok (.dup, 1) := by decide +kernel
theorem dX1_addToken_26 : decode cX1_addToken 26 = .ok (.getfield 15, 3) := by decide +kernel
theorem dX1_addToken_29 : decode cX1_addToken 29 = .ok (.iconst 1, 1) := by decide +kernel
theorem dX1_addToken_30 : decode cX1_addToken 30 = .ok (.iadd, 1) := by decide +kernel
theorem dX1_addToken_31 : decode cX1_addToken 31 = .ok (.putfield 15, 3) := by decide +kernel
theorem dX1_addToken_34 : decode cX1_addToken 34 = .ok (.return_, 1) := by decide +kernel
set_option maxRecDepth 20000 in
theorem ggX2_init_X5_init : GoodIn wsX2_init wsX5_init := goodIn_r _ [10, 11, 2, 3, 12, 13, 14, 15, 16, 17, 18, 19, 20, 21, 22, 23] (by decide +kernel) (by decide +kernel)
set_option maxRecDepth 20000 in
theorem gX2_init_X5_init : GoodIn wsX2_init (wsX5_init) := ggX2_init_X5_init
theorem dX2_init_0 : decode cX2_init 0 = .ok (.aload_n 0, 1) := by decide +kernel
theorem dX2_init_1 : decode cX2_init 1 = .ok (.invokespecial 3, 3) := by decide +kernel
theorem dX2_init_4 : decode cX2_init 4 = .ok (.aload_n 0, 1) := by decide +kernel
theorem dX2_init_5 : decode cX2_init 5 = .ok (.new 9, 3) := by decide +kernel
theorem dX2_init_8 : decode cX2_init 8 = .ok (.dup, 1) := by decide +kernel
theorem dX2_init_9 : decode cX2_init 9 = .ok (.bipush 8, 2) := by decide +kernel
theorem dX2_init_11 : decode cX2_init 11 = .ok (.bipush 63, 2) := by decide +kernel
theorem dX2_init_13 : decode cX2_init 13 = .ok (.invokespecial 11, 3) := by decide +kernel
theorem dX2_init_16 : decode cX2_init 16 = .ok (.putfield 14, 3) := by decide +kernel
theorem dX2_init_19 : decode cX2_init 19 = .ok (.return_, 1) := by decide +kernel
theorem dX2_count_0 : decode cX2_count 0 = .ok (.aload_n 0, 1) := by decide +kernel
theorem dX2_count_1 : decode cX2_count 1 = .ok (.getfield 14, 3) := by decide +kernel
theorem dX2_count_4 : decode cX2_count 4 = .ok (.getfield 20, 3) := by decide +kernel
theorem dX2_count_7 : decode cX2_count 7 = .ok (.ireturn, 1) := by decide +kernel
set_option maxRecDepth 20000 in
theorem ggX2_addRule_X5_addRow : GoodIn wsX2_addRule wsX5_addRow := goodIn_r _ [9, 10, 11, 37, 38, 39, 40] (by decide +kernel) (by decide +kernel)
set_option maxRecDepth 20000 in
theorem gX2_addRule_X5_addRow : GoodIn wsX2_addRule (wsV RX2 24 RX5 yX5_addRow wsX5_addRow) := goodIn_app (goodIn_of _ (by decide +kernel)) ggX2_addRule_X5_addRow
set_option maxRecDepth 20000 in
theorem ggX2_addRule_X5_put : GoodIn wsX2_addRule wsX5_put := goodIn_r _ [15, 11, 16, 17, 37, 38, 39, 40] (by decide +kernel) (by decide +kernel)
set_option maxRecDepth 20000 in
theorem gX2_addRule_X5_put : GoodIn wsX2_addRule (wsV RX2 31 RX5 yX5_put wsX5_put) := goodIn_app (goodIn_of _ (by decide +kernel)) ggX2_addRule_X5_put
set_option maxRecDepth 20000 in
theorem ggX2_addRule_X1_tokenAt : GoodIn wsX2_addRule wsX1_tokenAt := goodIn_r _ [22, 23, 24, 25, 26, 28, 29, 30, 31, 32, 33, 34, 35, 36] (by decide +kernel) (by decide +kernel)
set_option maxRecDepth 20000 in
theorem gX2_addRule_X1_tokenAt : GoodIn wsX2_addRule (wsV RX2 41 RX1 yX1_tokenAt wsX1_tokenAt) := goodIn_app (goodIn_of _ (by decide +kernel)) ggX2_addRule_X1_tokenAt
theorem dX2_addRule_0 : decode cX2_addRule 0 = .ok (.aload_n 0, 1) := by decide +kernel
theorem dX2_addRule_1 : decode cX2_addRule 1 = .ok (.getfield 14, 3) := by decide +kernel
theorem dX2_addRule_4 : decode cX2_addRule 4 = .ok (.invokevirtual 24, 3) := by decide +kernel
theorem dX2_addRule_7 : decode cX2_addRule 7 = .ok (.istore_n 2, 1) := by decide +kernel
theorem dX2_addRule_8 : decode cX2_addRule 8 = .ok (.aload_n 0, 1) := by decide +kernel
theorem dX2_addRule_9 : decode cX2_addRule 9 = .ok (.getfield 14, 3) := by decide +kernel
theorem dX2_addRule_12 : decode cX2_addRule 12 = .ok (.iload_n 2, 1) := by decide +kernel
theorem dX2_addRule_13 : decode cX2_addRule 13 = .ok (.iconst 0, 1) := by decide +kernel
theorem dX2_addRule_14 : decode cX2_addRule 14 = .ok (.aload_n 1, 1) := by decide +kernel
theorem dX2_addRule_15 : decode cX2_addRule 15 = .ok (.getfield 28, 3) := by decide +kernel
theorem dX2_addRule_18 : decode cX2_addRule 18 = .ok (.invokevirtual 31, 3) := by decide +kernel
theorem dX2_addRule_21 : decode cX2_addRule 21 = .ok (.aload_n 0, 1) := by decide +kernel
theorem dX2_addRule_22 : decode cX2_addRule 22 = .ok (.getfield 14, 3) := by decide +kernel
theorem dX2_addRule_25 : decode cX2_addRule 25 = .ok (.iload_n 2, 1) := by decide +kernel
theorem dX2_addRule_26 : decode cX2_addRule 26 = .ok (.iconst 1, 1) := by decide +kernel
theorem dX2_addRule_27 : decode cX2_addRule 27 = .ok (.aload_n 1, 1) := by decide +kernel
theorem dX2_addRule_28 : decode cX2_addRule 28 = .ok (.getfield 35, 3) := by decide +kernel
theorem dX2_addRule_31 : decode cX2_addRule 31 = .ok (.invokevirtual 31, 3) := by decide +kernel
theorem dX2_addRule_34 : decode cX2_addRule 34 = .ok (.aload_n 0, 1) := by decide +kernel
theorem dX2_addRule_35 : decode cX2_addRule 35 = .ok (.getfield 14, 3) := by decide +kernel
theorem dX2_addRule_38 : decode cX2_addRule 38 = .ok (.iload_n 2, 1) := by decide +kernel
theorem dX2_addRule_39 : decode cX2_addRule 39 = .ok (.iconst 2, 1) := by decide +kernel
theorem dX2_addRule_40 : decode cX2_addRule 40 = .ok (.aload_n 1, 1) := by decide +kernel
theorem dX2_addRule_41 : decode cX2_addRule 41 = .ok (.getfield 38, 3) := by decide +kernel
theorem dX2_addRule_44 : decode cX2_addRule 44 = .ok (.invokevirtual 31, 3) := by decide +kernel
theorem dX2_addRule_47 : decode cX2_addRule 47 = .ok (.iconst 0, 1) := by decide +kernel
theorem dX2_addRule_48 : decode cX2_addRule 48 = .ok (.istore_n 3, 1) := by decide +kernel
theorem dX2_addRule_49 : decode cX2_addRule 49 = .ok (.iload_n 3, 1) := by decide +kernel
theorem dX2_addRule_50 : decode cX2_addRule 50 = .ok (.aload_n 1, 1) := by decide +kernel
theorem dX2_addRule_51 : decode cX2_addRule 51 = .ok (.getfield 28, 3) := by decide +kernel
theorem dX2_addRule_54 : decode cX2_addRule 54 = .ok (.if_icmp .ge 25, 3) := by decide +kernel
theorem dX2_addRule_57 : decode cX2_addRule 57 = .ok (.aload_n 0, 1) := by decide +kernel
theorem dX2_addRule_58 : decode cX2_addRule 58 = .ok (.getfield 14, 3) := by decide +kernel
theorem dX2_addRule_61 : decode cX2_addRule 61 = .ok (.iload_n 2, 1) := by decide +kernel
theorem dX2_addRule_62 : decode cX2_addRule 62 = .ok (.iconst 3, 1) := by decide +kernel
theorem dX2_addRule_63 : decode cX2_addRule 63 = .ok (.iload_n 3, 1) := by decide +kernel
theorem dX2_addRule_64 : decode cX2_addRule 64 = .ok (.iadd, 1) := by decide +kernel
theorem dX2_addRule_65 : decode cX2_addRule 65 = .ok (.aload_n 1, 1) := by decide +kernel
theorem dX2_addRule_66 : decode cX2_addRule 66 = .ok (.iload_n 3, 1) := by decide +kernel
theorem dX2_addRule_67 : decode cX2_addRule 67 = .ok (.invokevirtual 41, 3) := by decide +kernel
theorem dX2_addRule_70 : decode cX2_addRule 70 = .ok (.invokevirtual 31, 3) := by decide +kernel
theorem dX2_addRule_73 : decode cX2_addRule 73 = .ok (.iinc 3 1, 3) := by decide +kernel
theorem dX2_addRule_76 : decode cX2_addRule 76 = .ok (.goto (-27), 3) := by decide +kernel
theorem dX2_addRule_79 : decode cX2_addRule 79 = .ok (.return_, 1) := by decide +kernel
theorem dX2_dropRule_0 : decode cX2_dropRule 0 = .ok (.aload_n 0, 1) := by decide +kernel
theorem dX2_dropRule_1 : decode cX2_dropRule 1 = .ok (.getfield 14, 3) := by decide +kernel
theorem dX2_dropRule_4 : decode cX2_dropRule 4 = .ok (.aload_n 0, 1) := by decide +kernel
theorem dX2_dropRule_5 : decode cX2_dropRule 5 = .ok (.getfield 14, 3) := by decide +kernel
theorem dX2_dropRule_8 : decode cX2_dropRule 8 = .ok (.getfield 20, 3) := by decide +kernel
theorem dX2_dropRule_11 : decode cX2_dropRule 11 = .ok (.iconst 1, 1) := by decide +kernel
theorem dX2_dropRule_12 : decode cX2_dropRule 12 = .ok (.isub, 1) := by decide +kernel
theorem dX2_dropRule_13 : decode cX2_dropRule 13 = .ok (.iconst 0, 1) := by decide +kernel
theorem dX2_dropRule_14 : decode cX2_dropRule 14 = .ok (.invokestatic 45, 3) := by decide +kernel
theorem dX2_dropRule_17 : decode cX2_dropRule 17 = .ok (.putfield 20, 3) := by decide +kernel
theorem dX2_dropRule_20 : decode cX2_dropRule 20 = .ok (.return_, 1) := by decide +kernel
set_option maxRecDepth 20000 in
theorem ggX2_copyFrom_X5_copyFrom : GoodIn wsX2_copyFrom wsX5_copyFrom := goodIn_r _ [6, 7, 8, 9, 10, 11, 12, 13, 14, 15, 16, 17, 19, 20, 21, 22] (by decide +kernel) (by decide +kernel)
set_option maxRecDepth 20000 in
theorem gX2_copyFrom_X5_copyFrom : GoodIn wsX2_copyFrom (wsV RX2 51 RX5 yX5_copyFrom wsX5_copyFrom) := goodIn_app (goodIn_of _ (by decide +kernel)) ggX2_copyFrom_X5_copyFrom
theorem dX2_copyFrom_0 : decode cX2_copyFrom 0 = .ok (.aload_n 0, 1) := by decide +kernel
theorem dX2_copyFrom_1 : decode cX2_copyFrom 1 = .ok (.getfield 14, 3) := by decide +kernel
theorem dX2_copyFrom_4 : decode cX2_copyFrom 4 = .ok (.aload_n 1, 1) := by decide +kernel
theorem dX2_copyFrom_5 : decode cX2_copyFrom 5 = .ok (.getfield 14, 3) := by decide +kernel
theorem dX2_copyFrom_8 : decode cX2_copyFrom 8 = .ok (.invokevirtual 51, 3) := by decide +kernel
theorem dX2_copyFrom_11 : decode cX2_copyFrom 11 = .ok (.return_, 1) := by decide +kernel
set_option maxRecDepth 20000 in
theorem ggX2_charge_X5_cell : GoodIn wsX2_charge wsX5_cell := goodIn_r _ [7, 8, 9, 10, 52, 53, 54, 55] (by decide +kernel) (by decide +kernel)
set_option maxRecDepth 20000 in
theorem gX2_charge_X5_cell : GoodIn wsX2_charge (wsV RX2 55 RX5 yX5_cell wsX5_cell) := goodIn_app (goodIn_of _ (by decide +kernel)) ggX2_charge_X5_cell
set_option maxRecDepth 20000 in
theorem ggX2_charge_X2_holds : GoodIn wsX2_charge wsX2_holds := goodIn_r _ [15, 1, 3, 4, 5, 6, 7, 8, 9, 10, 16, 17, 14, 18, 19, 20, 21, 22, 23, 24, 25, 26, 27, 28, 29, 51, 52, 53, 54, 55] (by decide +kernel) (by decide +kernel)
set_option maxRecDepth 20000 in
theorem gX2_charge_X2_holds : GoodIn wsX2_charge (wsV RX2 58 RX2 yX2_holds wsX2_holds) := goodIn_app (goodIn_of _ (by decide +kernel)) ggX2_charge_X2_holds
set_option maxRecDepth 20000 in
theorem ggX2_charge_X2_changed : GoodIn wsX2_charge wsX2_changed := goodIn_r _ [33, 1, 34, 35, 36, 37, 38, 39, 40, 41, 42, 3, 4, 5, 6, 7, 8, 9, 10, 51, 52, 53, 54, 55] (by decide +kernel) (by decide +kernel)
set_option maxRecDepth 20000 in
theorem gX2_charge_X2_changed : GoodIn wsX2_charge (wsV RX2 62 RX2 yX2_changed wsX2_changed) := goodIn_app (goodIn_of _ (by decide +kernel)) ggX2_charge_X2_changed
set_option maxRecDepth 20000 in
theorem ggX2_charge_X6_addReason : GoodIn wsX2_charge wsX6_addReason := goodIn_r _ [45, 46, 4, 5, 6, 7, 8, 9, 10, 47, 48, 49, 50, 52, 53, 54, 55] (by decide +kernel) (by decide +kernel)
set_option maxRecDepth 20000 in
theorem gX2_charge_X6_addReason_n65 : GoodIn wsX2_charge (wsX6_addReason) := ggX2_charge_X6_addReason
theorem dX2_charge_0 : decode cX2_charge 0 = .ok (.aload_n 1, 1) := by decide +kernel
theorem dX2_charge_1 : decode cX2_charge 1 = .ok (.iload_n 2, 1) := by decide +kernel
theorem dX2_charge_2 : decode cX2_charge 2 = .ok (.bipush 7, 2) := by decide +kernel
theorem dX2_charge_4 : decode cX2_charge 4 = .ok (.invokevirtual 55, 3) := by decide +kernel
theorem dX2_charge_7 : decode cX2_charge 7 = .ok (.istore_n 3, 1) := by decide +kernel
theorem dX2_charge_8 : decode cX2_charge 8 = .ok (.iconst 0, 1) := by decide +kernel
theorem dX2_charge_9 : decode cX2_charge 9 = .ok (.istore 4, 2) := by decide +kernel
theorem dX2_charge_11 : decode cX2_charge 11 = .ok (.iload 4, 2) := by decide +kernel
theorem dX2_charge_13 : decode cX2_charge 13 = .ok (.aload_n 0, 1) := by decide +kernel
theorem dX2_charge_14 : decode cX2_charge 14 = .ok (.getfield 14, 3) := by decide +kernel
theorem dX2_charge_17 : decode cX2_charge 17 = .ok (.getfield 20, 3) := by decide +kernel
theorem dX2_charge_20 : decode cX2_charge 20 = .ok (.if_icmp .ge 38, 3) := by decide +kernel
theorem dX2_charge_23 : decode cX2_charge 23 = .ok (.aload_n 0, 1) := by decide +kernel
theorem dX2_charge_24 : decode cX2_charge 24 = .ok (.iload 4, 2) := by decide +kernel
theorem dX2_charge_26 : decode cX2_charge 26 = .ok (.aload_n 1, 1) := by decide +kernel
theorem dX2_charge_27 : decode cX2_charge 27 = .ok (.iload_n 2, 1) := by decide +kernel
theorem dX2_charge_28 : decode cX2_charge 28 = .ok (.invokevirtual 58, 3) := by decide +kernel
theorem dX2_charge_31 : decode cX2_charge 31 = .ok (.ifCond .eq 21, 3) := by decide +kernel
theorem dX2_charge_34 : decode cX2_charge 34 = .ok (.aload_n 0, 1) := by decide +kernel
theorem dX2_charge_35 : decode cX2_charge 35 = .ok (.iload 4, 2) := by decide +kernel
theorem dX2_charge_37 : decode cX2_charge 37 = .ok (.iload_n 3, 1) := by decide +kernel
theorem dX2_charge_38 : decode cX2_charge 38 = .ok (.invokevirtual 62, 3) := by decide +kernel
theorem dX2_charge_41 : decode cX2_charge 41 = .ok (.istore_n 3, 1) := by decide +kernel
theorem dX2_charge_42 : decode cX2_charge 42 = .ok (.aload_n 1, 1) := by decide +kernel
theorem dX2_charge_43 : decode cX2_charge 43 = .ok (.iload_n 2, 1) := by decide +kernel
theorem dX2_charge_44 : decode cX2_charge 44 = .ok (.bipush 30, 2) := by decide +kernel
theorem dX2_charge_46 : decode cX2_charge 46 = .ok (.iload 4, 2) := by decide +kernel
theorem dX2_charge_48 : decode cX2_charge 48 = .ok (.iadd, 1) := by decide +kernel
theorem dX2_charge_49 : decode cX2_charge 49 = .ok (.invokestatic 65, 3) := by decide +kernel
theorem dX2_charge_52 : decode cX2_charge 52 = .ok (.iinc 4 1, 3) := by decide +kernel
theorem dX2_charge_55 : decode cX2_charge 55 = .ok (.goto (-44), 3) := by decide +kernel
theorem dX2_charge_58 : decode cX2_charge 58 = .ok (.iload_n 3, 1) := by decide +kernel
theorem dX2_charge_59 : decode cX2_charge 59 = .ok (.ireturn, 1) := by decide +kernel
set_option maxRecDepth 20000 in
theorem ggX2_changed_X5_cell : GoodIn wsX2_changed wsX5_cell := goodIn_r _ [15, 16, 17, 18, 20, 21, 22, 23] (by decide +kernel) (by decide +kernel)
set_option maxRecDepth 20000 in
theorem gX2_changed_X5_cell : GoodIn wsX2_changed (wsV RX2 55 RX5 yX5_cell wsX5_cell) := goodIn_app (goodIn_of _ (by decide +kernel)) ggX2_changed_X5_cell
theorem dX2_changed_0 : decode cX2_changed 0 = .ok (.aload_n 0, 1) := by decide +kernel
theorem dX2_changed_1 : decode cX2_changed 1 = .ok (.getfield 14, 3) := by decide +kernel
theorem dX2_changed_4 : decode cX2_changed 4 = .ok (.iload_n 1, 1) := by decide +kernel
theorem dX2_changed_5 : decode cX2_changed 5 = .ok (.iconst 1, 1) := by decide +kernel
theorem dX2_changed_6 : decode cX2_changed 6 = .ok (.invokevirtual 55, 3) := by decide +kernel
theorem dX2_changed_9 : decode cX2_changed 9 = .ok (.istore_n 3, 1) := by decide +kernel
theorem dX2_changed_10 : decode cX2_changed 10 = .ok (.aload_n 0, 1) := by decide +kernel
theorem dX2_changed_11 : decode cX2_changed 11 = .ok (.getfield 14, 3) := by decide +kernel
theorem dX2_changed_14 : decode cX2_changed 14 = .ok (.iload_n 1, 1) := by decide +kernel
theorem dX2_changed_15 : decode cX2_changed 15 = .ok (.iconst 2, 1) := by decide +kernel
theorem dX2_changed_16 : decode cX2_changed 16 = .ok (.invokevirtual 55, 3) := by decide +kernel
theorem dX2_changed_19 : decode cX2_changed 19 = .ok (.i2l, 1) := by decide +kernel
theorem dX2_changed_20 : decode cX2_changed 20 = .ok (.lstore 4, 2) := by decide +kernel
theorem dX2_changed_22 : decode cX2_changed 22 = .ok (.iload_n 2, 1) := by decide +kernel
theorem dX2_changed_23 : decode cX2_changed 23 = .ok (.i2l, 1) := by decide +kernel
theorem dX2_changed_24 : decode cX2_changed 24 = .ok (.lload 4, 2) := by decide +kernel
theorem dX2_changed_26 : decode cX2_changed 26 = .ok (.lmul, 1) := by decide +kernel
theorem dX2_changed_27 : decode cX2_changed 27 = .ok (.ldc2_w 69, 3) := by decide +kernel
theorem dX2_changed_30 : decode cX2_changed 30 = .ok (.ldiv, 1) := by decide +kernel
theorem dX2_changed_31 : decode cX2_changed 31 = .ok (.lstore 6, 2) := by decide +kernel
theorem dX2_changed_33 : decode cX2_changed 33 = .ok (.iload_n 3, 1) := by decide +kernel
theorem dX2_changed_34 : decode cX2_changed 34 = .ok (.bipush 42, 2) := by decide +kernel
theorem dX2_changed_36 : decode cX2_changed 36 = .ok (.if_icmp .eq 24, 3) := by decide +kernel
theorem dX2_changed_39 : decode cX2_changed 39 = .ok (.iload_n 3, 1) := by decide +kernel
theorem dX2_changed_40 : decode cX2_changed 40 = .ok (.bipush 43, 2) := by decide +kernel
theorem dX2_changed_42 : decode cX2_changed 42 = .ok (.if_icmp .ne 11, 3) := by decide +kernel
theorem dX2_changed_45 : decode cX2_changed 45 = .ok (.iload_n 2, 1) := by decide +kernel
theorem dX2_changed_46 : decode cX2_changed 46 = .ok (.i2l, 1) := by decide +kernel
theorem dX2_changed_47 : decode cX2_changed 47 = .ok (.lload 4, 2) := by decide +kernel
theorem dX2_changed_49 : decode cX2_changed 49 = .ok (.ladd, 1) := by decide +kernel
theorem dX2_changed_50 : decode cX2_changed 50 = .ok (.goto 8, 3) := by decide +kernel
theorem dX2_changed_53 : decode cX2_changed 53 = .ok (.iload_n 2, 1) := by decide +kernel
theorem dX2_changed_54 : decode cX2_changed 54 = .ok (.i2l, 1) := by decide +kernel
theorem dX2_changed_55 : decode cX2_changed 55 = .ok (.lload 4, 2) := by decide +kernel
theorem dX2_changed_57 : decode cX2_changed 57 = .ok (.lsub, 1) := by decide +kernel
theorem dX2_changed_58 : decode cX2_changed 58 = .ok (.lstore 6, 2) := by decide +kernel
theorem dX2_changed_60 : decode cX2_changed 60 = .ok (.lconst 0, 1) := by decide +kernel
theorem dX2_changed_61 : decode cX2_changed 61 = .ok (.lload 6, 2) := by decide +kernel
theorem dX2_changed_63 : decode cX2_changed 63 = .ok (.ldc2_w 71, 3) := by decide +kernel
theorem dX2_changed_66 : decode cX2_changed 66 = .ok (.invokestatic 73, 3) := by decide +kernel
theorem dX2_changed_69 : decode cX2_changed 69 = .ok (.invokestatic 77, 3) := by decide +kernel
theorem dX2_changed_72 : decode cX2_changed 72 = .ok (.l2i, 1) := by decide +kernel
theorem dX2_changed_73 : decode cX2_changed 73 = .ok (.ireturn, 1) := by decide +kernel
set_option maxRecDepth 20000 in
theorem ggX2_holds_X5_cell : GoodIn wsX2_holds wsX5_cell := goodIn_r _ [6, 7, 8, 9, 26, 27, 28, 29] (by decide +kernel) (by decide +kernel)
set_option maxRecDepth 20000 in
theorem gX2_holds_X5_cell : GoodIn wsX2_holds (wsV RX2 55 RX5 yX5_cell wsX5_cell) := goodIn_app (goodIn_of _ (by decide +kernel)) ggX2_holds_X5_cell
set_option maxRecDepth 20000 in
theorem ggX2_holds_X2_pushed : GoodIn wsX2_holds wsX2_pushed := goodIn_r _ [13] (by decide +kernel) (by decide +kernel)
set_option maxRecDepth 20000 in
theorem gX2_holds_X2_pushed : GoodIn wsX2_holds (va_wsS RX2 79 yX2_pushed wsX2_pushed) := goodIn_app (goodIn_of _ (by decide +kernel)) ggX2_holds_X2_pushed
set_option maxRecDepth 20000 in
theorem ggX2_holds_X2_isSet : GoodIn wsX2_holds wsX2_isSet := goodIn_r _ [16] (by decide +kernel) (by decide +kernel)
set_option maxRecDepth 20000 in
theorem gX2_holds_X2_isSet : GoodIn wsX2_holds (va_wsS RX2 83 yX2_isSet wsX2_isSet) := goodIn_app (goodIn_of _ (by decide +kernel)) ggX2_holds_X2_isSet
set_option maxRecDepth 20000 in
theorem ggX2_holds_X2_compares : GoodIn wsX2_holds wsX2_compares := goodIn_r _ [19, 20, 21, 22, 12, 23, 24, 2, 3, 4, 5, 6, 7, 8, 9, 26, 27, 28, 29] (by decide +kernel) (by decide +kernel)
set_option maxRecDepth 20000 in
theorem gX2_holds_X2_compares : GoodIn wsX2_holds (va_wsS RX2 87 yX2_compares wsX2_compares) := goodIn_app (goodIn_of _ (by decide +kernel)) ggX2_holds_X2_compares
theorem dX2_holds_0 : decode cX2_holds 0 = .ok (.iconst 0, 1) := by decide +kernel
theorem dX2_holds_1 : decode cX2_holds 1 = .ok (.istore 4, 2) := by decide +kernel
theorem dX2_holds_3 : decode cX2_holds 3 = .ok (.iconst 1, 1) := by decide +kernel
theorem dX2_holds_4 : decode cX2_holds 4 = .ok (.istore 5, 2) := by decide +kernel
theorem dX2_holds_6 : decode cX2_holds 6 = .ok (.iconst 0, 1) := by decide +kernel
theorem dX2_holds_7 : decode cX2_holds 7 = .ok (.istore 6, 2) := by decide +kernel
theorem dX2_holds_9 : decode cX2_holds 9 = .ok (.lconst 0, 1) := by decide +kernel
theorem dX2_holds_10 : decode cX2_holds 10 = .ok (.lstore 7, 2) := by decide +kernel
theorem dX2_holds_12 : decode cX2_holds 12 = .ok (.lconst 0, 1) := by decide +kernel
theorem dX2_holds_13 : decode cX2_holds 13 = .ok (.lstore 9, 2) := by decide +kernel
theorem dX2_holds_15 : decode cX2_holds 15 = .ok (.lconst 0, 1) := by decide +kernel
theorem dX2_holds_16 : decode cX2_holds 16 = .ok (.lstore 11, 2) := by decide +kernel
theorem dX2_holds_18 : decode cX2_holds 18 = .ok (.aload_n 0, 1) := by decide +kernel
theorem dX2_holds_19 : decode cX2_holds 19 = .ok (.getfield 14, 3) := by decide +kernel
theorem dX2_holds_22 : decode cX2_holds 22 = .ok (.iload_n 1, 1) := by decide +kernel
theorem dX2_holds_23 : decode cX2_holds 23 = .ok (.iconst 0, 1) := by decide +kernel
theorem dX2_holds_24 : decode cX2_holds 24 = .ok (.invokevirtual 55, 3) := by decide +kernel
theorem dX2_holds_27 : decode cX2_holds 27 = .ok (.istore 13, 2) := by decide +kernel
theorem dX2_holds_29 : decode cX2_holds 29 = .ok (.iconst 0, 1) := by decide +kernel
theorem dX2_holds_30 : decode cX2_holds 30 = .ok (.istore 14, 2) := by decide +kernel
theorem dX2_holds_32 : decode cX2_holds 32 = .ok (.iload 14, 2) := by decide +kernel
theorem dX2_holds_34 : decode cX2_holds 34 = .ok (.iload 13, 2) := by decide +kernel
theorem dX2_holds_36 : decode cX2_holds 36 = .ok (.if_icmp .ge 233, 3) := by decide +kernel
theorem dX2_holds_39 : decode cX2_holds 39 = .ok (.aload_n 0, 1) := by decide +kernel
theorem dX2_holds_40 : decode cX2_holds 40 = .ok (.getfield 14, 3) := by decide +kernel
theorem dX2_holds_43 : decode cX2_holds 43 = .ok (.iload_n 1, 1) := by decide +kernel
theorem dX2_holds_44 : decode cX2_holds 44 = .ok (.iconst 3, 1) := by decide +kernel
theorem dX2_holds_45 : decode cX2_holds 45 = .ok (.iload 14, 2) := by decide +kernel
theorem dX2_holds_47 : decode cX2_holds 47 = .ok (.iadd, 1) := by decide +kernel
theorem dX2_holds_48 : decode cX2_holds 48 = .ok (.invokevirtual 55, 3) := by decide +kernel
theorem dX2_holds_51 : decode cX2_holds 51 = .ok (.istore 15, 2) := by decide +kernel
theorem dX2_holds_53 : decode cX2_holds 53 = .ok (.iload 15, 2) := by decide +kernel
theorem dX2_holds_55 : decode cX2_holds 55 = .ok (.bipush (-126), 2) := by decide +kernel
theorem dX2_holds_57 : decode cX2_holds 57 = .ok (.if_icmp .ne 18, 3) := by decide +kernel
theorem dX2_holds_60 : decode cX2_holds 60 = .ok (.iload 6, 2) := by decide +kernel
theorem dX2_holds_62 : decode cX2_holds 62 = .ok (.ifCond .ne 7, 3) := by decide +kernel
theorem dX2_holds_65 : decode cX2_holds 65 = .ok (.iconst 1, 1) := by decide +kernel
theorem dX2_holds_66 : decode cX2_holds 66 = .ok (.goto 4, 3) := by decide +kernel
theorem dX2_holds_69 : decode cX2_holds 69 = .ok (.iconst 0, 1) := by decide +kernel
theorem dX2_holds_70 : decode cX2_holds 70 = .ok (.istore 6, 2) := by decide +kernel
theorem dX2_holds_72 : decode cX2_holds 72 = .ok (.goto 191, 3) := by decide +kernel
theorem dX2_holds_75 : decode cX2_holds 75 = .ok (.iload 15, 2) := by decide +kernel
theorem dX2_holds_77 : decode cX2_holds 77 = .ok (.bipush (-40), 2) := by decide +kernel
theorem dX2_holds_79 : decode cX2_holds 79 = .ok (.if_icmp .ne 42, 3) := by decide +kernel
theorem dX2_holds_82 : decode cX2_holds 82 = .ok (.lload 7, 2) := by decide +kernel
theorem dX2_holds_84 : decode cX2_holds 84 = .ok (.iload 4, 2) := by decide +kernel
theorem dX2_holds_86 : decode cX2_holds 86 = .ok (.invokestatic 79, 3) := by decide +kernel
theorem dX2_holds_89 : decode cX2_holds 89 = .ok (.lstore 7, 2) := by decide +kernel
theorem dX2_holds_91 : decode cX2_holds 91 = .ok (.lload 9, 2) := by decide +kernel
theorem dX2_holds_93 : decode cX2_holds 93 = .ok (.iload 5, 2) := by decide +kernel
theorem dX2_holds_95 : decode cX2_holds 95 = .ok (.invokestatic 79, 3) := by decide +kernel
theorem dX2_holds_98 : decode cX2_holds 98 = .ok (.lstore 9, 2) := by decide +kernel
theorem dX2_holds_100 : decode cX2_holds 100 = .ok (.lload 11, 2) := by decide +kernel
theorem dX2_holds_102 : decode cX2_holds 102 = .ok (.iload 6, 2) := by decide +kernel
theorem dX2_holds_104 : decode cX2_holds 104 = .ok (.invokestatic 79, 3) := by decide +kernel
theorem dX2_holds_107 : decode cX2_holds 107 = .ok (.lstore 11, 2) := by decide +kernel
theorem dX2_holds_109 : decode cX2_holds 109 = .ok (.iconst 0, 1) := by decide +kernel
theorem dX2_holds_110 : decode cX2_holds 110 = .ok (.istore 4, 2) := by decide +kernel
theorem dX2_holds_112 : decode cX2_holds 112 = .ok (.iconst 1, 1) := by decide +kernel
theorem dX2_holds_113 : decode cX2_holds 113 = .ok (.istore 5, 2) := by decide +kernel
theorem dX2_holds_115 : decode cX2_holds 115 = .ok (.iconst 0, 1) := by decide +kernel
theorem dX2_holds_116 : decode cX2_holds 116 = .ok (.istore 6, 2) := by decide +kernel
theorem dX2_holds_118 : decode cX2_holds 118 = .ok (.goto 145, 3) := by decide +kernel
theorem dX2_holds_121 : decode cX2_holds 121 = .ok (.iload 15, 2) := by decide +kernel
theorem dX2_holds_123 : decode cX2_holds 123 = .ok (.bipush (-124), 2) := by decide +kernel
theorem dX2_holds_125 : decode cX2_holds 125 = .ok (.if_icmp .ne 26, 3) := by decide +kernel
theorem dX2_holds_128 : decode cX2_holds 128 = .ok (.iload 4, 2) := by decide +kernel
theorem dX2_holds_130 : decode cX2_holds 130 = .ok (.ifCond .ne 8, 3) := by decide +kernel
theorem dX2_holds_133 : decode cX2_holds 133 = .ok (.iload 5, 2) := by decide +kernel
theorem dX2_holds_135 : decode cX2_holds 135 = .ok (.ifCond .eq 7, 3) := by decide +kernel
theorem dX2_holds_138 : decode cX2_holds 138 = .ok (.iconst 1, 1) := by decide +kernel
theorem dX2_holds_139 : decode cX2_holds 139 = .ok (.goto 4, 3) := by decide +kernel
theorem dX2_holds_142 : decode cX2_holds 142 = .ok (.iconst 0, 1) := by decide +kernel
theorem dX2_holds_143 : decode cX2_holds 143 = .ok (.istore 4, 2) := by decide +kernel
theorem dX2_holds_145 : decode cX2_holds 145 = .ok (.iconst 1, 1) := by decide +kernel
theorem dX2_holds_146 : decode cX2_holds 146 = .ok (.istore 5, 2) := by decide +kernel
theorem dX2_holds_148 : decode cX2_holds 148 = .ok (.goto 115, 3) := by decide +kernel
theorem dX2_holds_151 : decode cX2_holds 151 = .ok (.iload 15, 2) := by decide +kernel
theorem dX2_holds_153 : decode cX2_holds 153 = .ok (.bipush (-41), 2) := by decide +kernel
theorem dX2_holds_155 : decode cX2_holds 155 = .ok (.if_icmp .ne 76, 3) := by decide +kernel
theorem dX2_holds_158 : decode cX2_holds 158 = .ok (.iload 4, 2) := by decide +kernel
theorem dX2_holds_160 : decode cX2_holds 160 = .ok (.ifCond .ne 8, 3) := by decide +kernel
theorem dX2_holds_163 : decode cX2_holds 163 = .ok (.iload 5, 2) := by decide +kernel
theorem dX2_holds_165 : decode cX2_holds 165 = .ok (.ifCond .eq 7, 3) := by decide +kernel
theorem dX2_holds_168 : decode cX2_holds 168 = .ok (.iconst 1, 1) := by decide +kernel
theorem dX2_holds_169 : decode cX2_holds 169 = .ok (.goto 4, 3) := by decide +kernel
theorem dX2_holds_172 : decode cX2_holds 172 = .ok (.iconst 0, 1) := by decide +kernel
theorem dX2_holds_173 : decode cX2_holds 173 = .ok (.istore 16, 2) := by decide +kernel
theorem dX2_holds_175 : decode cX2_holds 175 = .ok (.lload 7, 2) := by decide +kernel
theorem dX2_holds_177 : decode cX2_holds 177 = .ok (.invokestatic 83, 3) := by decide +kernel
theorem dX2_holds_180 : decode cX2_holds 180 = .ok (.istore 4, 2) := by decide +kernel
theorem dX2_holds_182 : decode cX2_holds 182 = .ok (.lload 9, 2) := by decide +kernel
theorem dX2_holds_184 : decode cX2_holds 184 = .ok (.invokestatic 83, 3) := by decide +kernel
theorem dX2_holds_187 : decode cX2_holds 187 = .ok (.ifCond .eq 17, 3) := by decide +kernel
theorem dX2_holds_190 : decode cX2_holds 190 = .ok (.iload 16, 2) := by decide +kernel
theorem dX2_holds_192 : decode cX2_holds 192 = .ok (.lload 11, 2) := by decide +kernel
theorem dX2_holds_194 : decode cX2_holds 194 = .ok (.invokestatic 83, 3) := by decide +kernel
theorem dX2_holds_197 : decode cX2_holds 197 = .ok (.if_icmp .eq 7, 3) := by decide +kernel
theorem dX2_holds_200 : decode cX2_holds 200 = .ok (.iconst 1, 1) := by decide +kernel
theorem dX2_holds_201 : decode cX2_holds 201 = .ok (.goto 4, 3) := by decide +kernel
theorem dX2_holds_204 : decode cX2_holds 204 = .ok (.iconst 0, 1) := by decide +kernel
theorem dX2_holds_205 : decode cX2_holds 205 = .ok (.istore 5, 2) := by decide +kernel
theorem dX2_holds_207 : decode cX2_holds 207 = .ok (.iconst 0, 1) := by decide +kernel
theorem dX2_holds_208 : decode cX2_holds 208 = .ok (.istore 6, 2) := by decide +kernel
theorem dX2_holds_210 : decode cX2_holds 210 = .ok (.lload 7, 2) := by decide +kernel
theorem dX2_holds_212 : decode cX2_holds 212 = .ok (.iconst 1, 1) := by decide +kernel
theorem dX2_holds_213 : decode cX2_holds 213 = .ok (.lshr, 1) := by decide +kernel
theorem dX2_holds_214 : decode cX2_holds 214 = .ok (.lstore 7, 2) := by decide +kernel
theorem dX2_holds_216 : decode cX2_holds 216 = .ok (.lload 9, 2) := by decide +kernel
theorem dX2_holds_218 : decode cX2_holds 218 = .ok (.iconst 1, 1) := by decide +kernel
theorem dX2_holds_219 : decode cX2_holds 219 = .ok (.lshr, 1) := by decide +kernel
theorem dX2_holds_220 : decode cX2_holds 220 = .ok (.lstore 9, 2) := by decide +kernel
theorem dX2_holds_222 : decode cX2_holds 222 = .ok (.lload 11, 2) := by decide +kernel
theorem dX2_holds_224 : decode cX2_holds 224 = .ok (.iconst 1, 1) := by decide +kernel
theorem dX2_holds_225 : decode cX2_holds 225 = .ok (.lshr, 1) := by decide +kernel
theorem dX2_holds_226 : decode cX2_holds 226 = .ok (.lstore 11, 2) := by decide +kernel
theorem dX2_holds_228 : decode cX2_holds 228 = .ok (.goto 35, 3) := by decide +kernel
theorem dX2_holds_231 : decode cX2_holds 231 = .ok (.iload 15, 2) := by decide +kernel
theorem dX2_holds_233 : decode cX2_holds 233 = .ok (.ifCond .lt 30, 3) := by decide +kernel
theorem dX2_holds_236 : decode cX2_holds 236 = .ok (.iload 5, 2) := by decide +kernel
theorem dX2_holds_238 : decode cX2_holds 238 = .ok (.ifCond .eq 19, 3) := by decide +kernel
theorem dX2_holds_241 : decode cX2_holds 241 = .ok (.iload 15, 2) := by decide +kernel
theorem dX2_holds_243 : decode cX2_holds 243 = .ok (.aload_n 2, 1) := by decide +kernel
theorem dX2_holds_244 : decode cX2_holds 244 = .ok (.iload_n 3, 1) := by decide +kernel
theorem dX2_holds_245 : decode cX2_holds 245 = .ok (.invokestatic 87, 3) := by decide +kernel
theorem dX2_holds_248 : decode cX2_holds 248 = .ok (.iload 6, 2) := by decide +kernel
theorem dX2_holds_250 : decode cX2_holds 250 = .ok (.if_icmp .eq 7, 3) := by decide +kernel
theorem dX2_holds_253 : decode cX2_holds 253 = .ok (.iconst 1, 1) := by decide +kernel
theorem dX2_holds_254 : decode cX2_holds 254 = .ok (.goto 4, 3) := by decide +kernel
theorem dX2_holds_257 : decode cX2_holds 257 = .ok (.iconst 0, 1) := by decide +kernel
theorem dX2_holds_258 : decode cX2_holds 258 = .ok (.istore 5, 2) := by decide +kernel
theorem dX2_holds_260 : decode cX2_holds 260 = .ok (.iconst 0, 1) := by decide +kernel
theorem dX2_holds_261 : decode cX2_holds 261 = .ok (.istore 6, 2) := by decide +kernel
theorem dX2_holds_263 : decode cX2_holds 263 = .ok (.iinc 14 1, 3) := by decide +kernel
theorem dX2_holds_266 : decode cX2_holds 266 = .ok (.goto (-234), 3) := by decide +kernel
theorem dX2_holds_269 : decode cX2_holds 269 = .ok (.iload 4, 2) := by decide +kernel
theorem dX2_holds_271 : decode cX2_holds 271 = .ok (.ifCond .ne 8, 3) := by decide +kernel
theorem dX2_holds_274 : decode cX2_holds 274 = .ok (.iload 5, 2) := by decide +kernel
theorem dX2_holds_276 : decode cX2_holds 276 = .ok (.ifCond .eq 7, 3) := by decide +kernel
theorem dX2_holds_279 : decode cX2_holds 279 = .ok (.iconst 1, 1) := by decide +kernel
theorem dX2_holds_280 : decode cX2_holds 280 = .ok (.goto 4, 3) := by decide +kernel
theorem dX2_holds_283 : decode cX2_holds 283 = .ok (.iconst 0, 1) := by decide +kernel
theorem dX2_holds_284 : decode cX2_holds 284 = .ok (.ireturn, 1) := by decide +kernel
theorem dX2_pushed_0 : decode cX2_pushed 0 = .ok (.lload_n 0, 1) := by decide +kernel
theorem dX2_pushed_1 : decode cX2_pushed 1 = .ok (.iconst 1, 1) := by decide +kernel
theorem dX2_pushed_2 : decode cX2_pushed 2 = .ok (.lshl, 1) := by decide +kernel
theorem dX2_pushed_3 : decode cX2_pushed 3 = .ok (.iload_n 2, 1) := by decide +kernel
theorem dX2_pushed_4 : decode cX2_pushed 4 = .ok (.ifCond .eq 7, 3) := by decide +kernel
theorem dX2_pushed_7 : decode cX2_pushed 7 = .ok (.iconst 1, 1) := by decide +kernel
theorem dX2_pushed_8 : decode cX2_pushed 8 = .ok (.goto 4, 3) := by decide +kernel
theorem dX2_pushed_11 : decode cX2_pushed 11 = .ok (.iconst 0, 1) := by decide +kernel
theorem dX2_pushed_12 : decode cX2_pushed 12 = .ok (.i2l, 1) := by decide +kernel
theorem dX2_pushed_13 : decode cX2_pushed 13 = .ok (.lor, 1) := by decide +kernel
theorem dX2_pushed_14 : decode cX2_pushed 14 = .ok (.lreturn, 1) := by decide +kernel
theorem dX2_isSet_0 : decode cX2_isSet 0 = .ok (.lload_n 0, 1) := by decide +kernel
theorem dX2_isSet_1 : decode cX2_isSet 1 = .ok (.lconst 1, 1) := by decide +kernel
theorem dX2_isSet_2 : decode cX2_isSet 2 = .ok (.land, 1) := by decide +kernel
theorem dX2_isSet_3 : decode cX2_isSet 3 = .ok (.lconst 0, 1) := by decide +kernel
theorem dX2_isSet_4 : decode cX2_isSet 4 = .ok (.lcmp, 1) := by decide +kernel
theorem dX2_isSet_5 : decode cX2_isSet 5 = .ok (.ifCond .eq 7, 3) := by decide +kernel
theorem dX2_isSet_8 : decode cX2_isSet 8 = .ok (.iconst 1, 1) := by decide +kernel
theorem dX2_isSet_9 : decode cX2_isSet 9 = .ok (.goto 4, 3) := by decide +kernel
theorem dX2_isSet_12 : decode cX2_isSet 12 = .ok (.iconst 0, 1) := by decide +kernel
theorem dX2_isSet_13 : decode cX2_isSet 13 = .ok (.ireturn, 1) := by decide +kernel
set_option maxRecDepth 20000 in
theorem ggX2_compares_X2_columnOf : GoodIn wsX2_compares wsX2_columnOf := goodIn_r _ [5, 1, 6] (by decide +kernel) (by decide +kernel)
set_option maxRecDepth 20000 in
theorem gX2_compares_X2_columnOf : GoodIn wsX2_compares (va_wsS RX2 91 yX2_columnOf wsX2_columnOf) := goodIn_app (goodIn_of _ (by decide +kernel)) ggX2_compares_X2_columnOf
set_option maxRecDepth 20000 in
theorem ggX2_compares_X5_cell : GoodIn wsX2_compares wsX5_cell := goodIn_r _ [11, 12, 13, 14, 15, 16, 17, 18] (by decide +kernel) (by decide +kernel)
set_option maxRecDepth 20000 in
theorem gX2_compares_X5_cell : GoodIn wsX2_compares (wsV RX2 55 RX5 yX5_cell wsX5_cell) := goodIn_app (goodIn_of _ (by decide +kernel)) ggX2_compares_X5_cell
theorem dX2_compares_0 : decode cX2_compares 0 = .ok (.iload_n 0, 1) := by decide +kernel
theorem dX2_compares_1 : decode cX2_compares 1 = .ok (.ldc 90, 2) := by decide +kernel
theorem dX2_compares_3 : decode cX2_compares 3 = .ok (.irem, 1) := by decide +kernel
theorem dX2_compares_4 : decode cX2_compares 4 = .ok (.istore_n 3, 1) := by decide +kernel
theorem dX2_compares_5 : decode cX2_compares 5 = .ok (.aload_n 1, 1) := by decide +kernel
theorem dX2_compares_6 : decode cX2_compares 6 = .ok (.iload_n 2, 1) := by decide +kernel
theorem dX2_compares_7 : decode cX2_compares 7 = .ok (.iload_n 0, 1) := by decide +kernel
theorem dX2_compares_8 : decode cX2_compares 8 = .ok (.invokestatic 91, 3) := by decide +kernel
theorem dX2_compares_11 : decode cX2_compares 11 = .ok (.invokevirtual 55, 3) := by decide +kernel
theorem dX2_compares_14 : decode cX2_compares 14 = .ok (.istore 4, 2) := by decide +kernel
theorem dX2_compares_16 : decode cX2_compares 16 = .ok (.iload_n 0, 1) := by decide +kernel
theorem dX2_compares_17 : decode cX2_compares 17 = .ok (.ldc 90, 2) := by decide +kernel
theorem dX2_compares_19 : decode cX2_compares 19 = .ok (.idiv, 1) := by decide +kernel
theorem dX2_compares_20 : decode cX2_compares 20 = .ok (.iconst 3, 1) := by decide +kernel
theorem dX2_compares_21 : decode cX2_compares 21 = .ok (.irem, 1) := by decide +kernel
theorem dX2_compares_22 : decode cX2_compares 22 = .ok (.lookupswitch 50 #[(0, 26), (1, 38)], 26) := by decide +kernel
theorem dX2_compares_48 : decode cX2_compares 48 = .ok (.iload 4, 2) := by decide +kernel
theorem dX2_compares_50 : decode cX2_compares 50 = .ok (.iload_n 3, 1) := by decide +kernel
theorem dX2_compares_51 : decode cX2_compares 51 = .ok (.if_icmp .ge 7, 3) := by decide +kernel
theorem dX2_compares_54 : decode cX2_compares 54 = .ok (.iconst 1, 1) := by decide +kernel
theorem dX2_compares_55 : decode cX2_compares 55 = .ok (.goto 4, 3) := by decide +kernel
theorem dX2_compares_58 : decode cX2_compares 58 = .ok (.iconst 0, 1) := by decide +kernel
theorem dX2_compares_59 : decode cX2_compares 59 = .ok (.ireturn, 1) := by decide +kernel
theorem dX2_compares_60 : decode cX2_compares 60 = .ok (.iload 4, 2) := by decide +kernel
theorem dX2_compares_62 : decode cX2_compares 62 = .ok (.iload_n 3, 1) := by decide +kernel
theorem dX2_compares_63 : decode cX2_compares 63 = .ok (.if_icmp .ne 7, 3) := by decide +kernel
theorem dX2_compares_66 : decode cX2_compares 66 = .ok (.iconst 1, 1) := by decide +kernel
theorem dX2_compares_67 : decode cX2_compares 67 = .ok (.goto 4, 3) := by decide +kernel
theorem dX2_compares_70 : decode cX2_compares 70 = .ok (.iconst 0, 1) := by decide +kernel
theorem dX2_compares_71 : decode cX2_compares 71 = .ok (.ireturn, 1) := by decide +kernel
theorem dX2_compares_72 : decode cX2_compares 72 = .ok (.iload 4, 2) := by decide +kernel
theorem dX2_compares_74 : decode cX2_compares 74 = .ok (.iload_n 3, 1) := by decide +kernel
theorem dX2_compares_75 : decode cX2_compares 75 = .ok (.if_icmp .le 7, 3) := by decide +kernel
theorem dX2_compares_78 : decode cX2_compares 78 = .ok (.iconst 1, 1) := by decide +kernel
theorem dX2_compares_79 : decode cX2_compares 79 = .ok (.goto 4, 3) := by decide +kernel
theorem dX2_compares_82 : decode cX2_compares 82 = .ok (.iconst 0, 1) := by decide +kernel
theorem dX2_compares_83 : decode cX2_compares 83 = .ok (.ireturn, 1) := by decide +kernel
theorem dX2_columnOf_0 : decode cX2_columnOf 0 = .ok (.iload_n 0, 1) := by decide +kernel
theorem dX2_columnOf_1 : decode cX2_columnOf 1 = .ok (.ldc 90, 2) := by decide +kernel
theorem dX2_columnOf_3 : decode cX2_columnOf 3 = .ok (.idiv, 1) := by decide +kernel
theorem dX2_columnOf_4 : decode cX2_columnOf 4 = .ok (.iconst 3, 1) := by decide +kernel
theorem dX2_columnOf_5 : decode cX2_columnOf 5 = .ok (.idiv, 1) := by decide +kernel
theorem dX2_columnOf_6 : decode cX2_columnOf 6 = .ok (.istore_n 1, 1) := by decide +kernel
theorem dX2_columnOf_7 : decode cX2_columnOf 7 = .ok (.iload_n 0, 1) := by decide +kernel
theorem dX2_columnOf_8 : decode cX2_columnOf 8 = .ok (.ifCond .lt 11, 3) := by decide +kernel
theorem dX2_columnOf_11 : decode cX2_columnOf 11 = .ok (.iload_n 1, 1) := by decide +kernel
theorem dX2_columnOf_12 : decode cX2_columnOf 12 = .ok (.getstatic 94, 3) := by decide +kernel
theorem dX2_columnOf_15 : decode cX2_columnOf 15 = .ok (.arraylength, 1) := by decide +kernel
theorem dX2_columnOf_16 : decode cX2_columnOf 16 = .ok (.if_icmp .lt 6, 3) := by decide +kernel
theorem dX2_columnOf_19 : decode cX2_columnOf 19 = .ok (.ldc 98, 2) := by decide +kernel
theorem dX2_columnOf_21 : decode cX2_columnOf 21 = .ok (.ireturn, 1) := by decide +kernel
theorem dX2_columnOf_22 : decode cX2_columnOf 22 = .ok (.getstatic 94, 3) := by decide +kernel
theorem dX2_columnOf_25 : decode cX2_columnOf 25 = .ok (.iload_n 1, 1) := by decide +kernel
theorem dX2_columnOf_26 : decode cX2_columnOf 26 = .ok (.iaload, 1) := by decide +kernel
theorem dX2_columnOf_27 : decode cX2_columnOf 27 = .ok (.ireturn, 1) := by decide +kernel
set_option maxRecDepth 20000 in
theorem ggX2_nextLower_X5_cell : GoodIn wsX2_nextLower wsX5_cell := goodIn_r _ [11, 12, 13, 14, 28, 29, 30, 31] (by decide +kernel) (by decide +kernel)
set_option maxRecDepth 20000 in
theorem gX2_nextLower_X5_cell : GoodIn wsX2_nextLower (wsV RX2 55 RX5 yX5_cell wsX5_cell) := goodIn_app (goodIn_of _ (by decide +kernel)) ggX2_nextLower_X5_cell
set_option maxRecDepth 20000 in
theorem ggX2_nextLower_X2_turnBelow : GoodIn wsX2_nextLower wsX2_turnBelow := goodIn_r _ [18, 19, 20, 21, 17, 22, 23, 24, 25, 26] (by decide +kernel) (by decide +kernel)
set_option maxRecDepth 20000 in
theorem gX2_nextLower_X2_turnBelow : GoodIn wsX2_nextLower (va_wsS RX2 99 yX2_turnBelow wsX2_turnBelow) := goodIn_app (goodIn_of _ (by decide +kernel)) ggX2_nextLower_X2_turnBelow
theorem dX2_nextLower_0 : decode cX2_nextLower 0 = .ok (.iconst 0, 1) := by decide +kernel
theorem dX2_nextLower_1 : decode cX2_nextLower 1 = .ok (.istore_n 3, 1) := by decide +kernel
theorem dX2_nextLower_2 : decode cX2_nextLower 2 = .ok (.iconst 0, 1) := by decide +kernel
theorem dX2_nextLower_3 : decode cX2_nextLower 3 = .ok (.istore 4, 2) := by decide +kernel
theorem dX2_nextLower_5 : decode cX2_nextLower 5 = .ok (.iload 4, 2) := by decide +kernel
theorem dX2_nextLower_7 : decode cX2_nextLower 7 = .ok (.aload_n 0, 1) := by decide +kernel
theorem dX2_nextLower_8 : decode cX2_nextLower 8 = .ok (.getfield 14, 3) := by decide +kernel
theorem dX2_nextLower_11 : decode cX2_nextLower 11 = .ok (.getfield 20, 3) := by decide +kernel
theorem dX2_nextLower_14 : decode cX2_nextLower 14 = .ok (.if_icmp .ge 64, 3) := by decide +kernel
theorem dX2_nextLower_17 : decode cX2_nextLower 17 = .ok (.aload_n 0, 1) := by decide +kernel
theorem dX2_nextLower_18 : decode cX2_nextLower 18 = .ok (.getfield 14, 3) := by decide +kernel
theorem dX2_nextLower_21 : decode cX2_nextLower 21 = .ok (.iload 4, 2) := by decide +kernel
theorem dX2_nextLower_23 : decode cX2_nextLower 23 = .ok (.iconst 0, 1) := by decide +kernel
theorem dX2_nextLower_24 : decode cX2_nextLower 24 = .ok (.invokevirtual 55, 3) := by decide +kernel
theorem dX2_nextLower_27 : decode cX2_nextLower 27 = .ok (.istore 5, 2) := by decide +kernel
theorem dX2_nextLower_29 : decode cX2_nextLower 29 = .ok (.iconst 0, 1) := by decide +kernel
theorem dX2_nextLower_30 : decode cX2_nextLower 30 = .ok (.istore 6, 2) := by decide +kernel
theorem dX2_nextLower_32 : decode cX2_nextLower 32 = .ok (.iload 6, 2) := by decide +kernel
theorem dX2_nextLower_34 : decode cX2_nextLower 34 = .ok (.iload 5, 2) := by decide +kernel
theorem dX2_nextLower_36 : decode cX2_nextLower 36 = .ok (.if_icmp .ge 36, 3) := by decide +kernel
theorem dX2_nextLower_39 : decode cX2_nextLower 39 = .ok (.aload_n 0, 1) := by decide +kernel
theorem dX2_nextLower_40 : decode cX2_nextLower 40 = .ok (.getfield 14, 3) := by decide +kernel
theorem dX2_nextLower_43 : decode cX2_nextLower 43 = .ok (.iload 4, 2) := by decide +kernel
theorem dX2_nextLower_45 : decode cX2_nextLower 45 = .ok (.iconst 3, 1) := by decide +kernel
theorem dX2_nextLower_46 : decode cX2_nextLower 46 = .ok (.iload 6, 2) := by decide +kernel
theorem dX2_nextLower_48 : decode cX2_nextLower 48 = .ok (.iadd, 1) := by decide +kernel
theorem dX2_nextLower_49 : decode cX2_nextLower 49 = .ok (.invokevirtual 55, 3) := by decide +kernel
theorem dX2_nextLower_52 : decode cX2_nextLower 52 = .ok (.istore 7, 2) := by decide +kernel
theorem dX2_nextLower_54 : decode cX2_nextLower 54 = .ok (.iload_n 3, 1) := by decide +kernel
theorem dX2_nextLower_55 : decode cX2_nextLower 55 = .ok (.iload 7, 2) := by decide +kernel
theorem dX2_nextLower_57 : decode cX2_nextLower 57 = .ok (.iload_n 1, 1) := by decide +kernel
theorem dX2_nextLower_58 : decode cX2_nextLower 58 = .ok (.iload_n 2, 1) := by decide +kernel
theorem dX2_nextLower_59 : decode cX2_nextLower 59 = .ok (.invokestatic 99, 3) := by decide +kernel
theorem dX2_nextLower_62 : decode cX2_nextLower 62 = .ok (.invokestatic 45, 3) := by decide +kernel
theorem dX2_nextLower_65 : decode cX2_nextLower 65 = .ok (.istore_n 3, 1) := by decide +kernel
theorem dX2_nextLower_66 : decode cX2_nextLower 66 = .ok (.iinc 6 1, 3) := by decide +kernel
theorem dX2_nextLower_69 : decode cX2_nextLower 69 = .ok (.goto (-37), 3) := by decide +kernel
theorem dX2_nextLower_72 : decode cX2_nextLower 72 = .ok (.iinc 4 1, 3) := by decide +kernel
theorem dX2_nextLower_75 : decode cX2_nextLower 75 = .ok (.goto (-70), 3) := by decide +kernel
theorem dX2_nextLower_78 : decode cX2_nextLower 78 = .ok (.iload_n 3, 1) := by decide +kernel
theorem dX2_nextLower_79 : decode cX2_nextLower 79 = .ok (.ireturn, 1) := by decide +kernel
set_option maxRecDepth 20000 in
theorem ggX2_turnBelow_X2_columnOf : GoodIn wsX2_turnBelow wsX2_columnOf := goodIn_r _ [5, 1, 6] (by decide +kernel) (by decide +kernel)
set_option maxRecDepth 20000 in
theorem gX2_turnBelow_X2_columnOf : GoodIn wsX2_turnBelow (va_wsS RX2 91 yX2_columnOf wsX2_columnOf) := goodIn_app (goodIn_of _ (by decide +kernel)) ggX2_turnBelow_X2_columnOf
set_option maxRecDepth 20000 in
theorem ggX2_turnBelow_X6_wholeSteps : GoodIn wsX2_turnBelow wsX6_wholeSteps := goodIn_r _ [9] (by decide +kernel) (by decide +kernel)
set_option maxRecDepth 20000 in
theorem gX2_turnBelow_X6_wholeSteps_n103 : GoodIn wsX2_turnBelow (wsX6_wholeSteps) := ggX2_turnBelow_X6_wholeSteps
theorem dX2_turnBelow_0 : decode cX2_turnBelow 0 = .ok (.iload_n 0, 1) := by decide +kernel
theorem dX2_turnBelow_1 : decode cX2_turnBelow 1 = .ok (.invokestatic 91, 3) := by decide +kernel
theorem dX2_turnBelow_4 : decode cX2_turnBelow 4 = .ok (.istore_n 3, 1) := by decide +kernel
theorem dX2_turnBelow_5 : decode cX2_turnBelow 5 = .ok (.iload_n 3, 1) := by decide +kernel
theorem dX2_turnBelow_6 : decode cX2_turnBelow 6 = .ok (.bipush 6, 2) := by decide +kernel
theorem dX2_turnBelow_8 : decode cX2_turnBelow 8 = .ok (.if_icmp .eq 9, 3) := by decide +kernel
theorem dX2_turnBelow_11 : decode cX2_turnBelow 11 = .ok (.iload_n 3, 1) := by decide +kernel
theorem dX2_turnBelow_12 : decode cX2_turnBelow 12 = .ok (.ifCond .eq 5, 3) := by decide +kernel
theorem dX2_turnBelow_15 : decode cX2_turnBelow 15 = .ok (.iconst 0, 1) := by decide +kernel
theorem dX2_turnBelow_16 : decode cX2_turnBelow 16 = .ok (.ireturn, 1) := by decide +kernel
theorem dX2_turnBelow_17 : decode cX2_turnBelow 17 = .ok (.iload_n 3, 1) := by decide +kernel
theorem dX2_turnBelow_18 : decode cX2_turnBelow 18 = .ok (.bipush 6, 2) := by decide +kernel
theorem dX2_turnBelow_20 : decode cX2_turnBelow 20 = .ok (.if_icmp .ne 7, 3) := by decide +kernel
theorem dX2_turnBelow_23 : decode cX2_turnBelow 23 = .ok (.iload_n 2, 1) := by decide +kernel
theorem dX2_turnBelow_24 : decode cX2_turnBelow 24 = .ok (.goto 4, 3) := by decide +kernel
theorem dX2_turnBelow_27 : decode cX2_turnBelow 27 = .ok (.iconst 1, 1) := by decide +kernel
theorem dX2_turnBelow_28 : decode cX2_turnBelow 28 = .ok (.istore 4, 2) := by decide +kernel
theorem dX2_turnBelow_30 : decode cX2_turnBelow 30 = .ok (.iload_n 0, 1) := by decide +kernel
theorem dX2_turnBelow_31 : decode cX2_turnBelow 31 = .ok (.ldc 90, 2) := by decide +kernel
theorem dX2_turnBelow_33 : decode cX2_turnBelow 33 = .ok (.irem, 1) := by decide +kernel
theorem dX2_turnBelow_34 : decode cX2_turnBelow 34 = .ok (.istore 5, 2) := by decide +kernel
theorem dX2_turnBelow_36 : decode cX2_turnBelow 36 = .ok (.iload 5, 2) := by decide +kernel
theorem dX2_turnBelow_38 : decode cX2_turnBelow 38 = .ok (.iload 4, 2) := by decide +kernel
theorem dX2_turnBelow_40 : decode cX2_turnBelow 40 = .ok (.invokestatic 103, 3) := by decide +kernel
theorem dX2_turnBelow_43 : decode cX2_turnBelow 43 = .ok (.istore 6, 2) := by decide +kernel
theorem dX2_turnBelow_45 : decode cX2_turnBelow 45 = .ok (.iload 6, 2) := by decide +kernel
theorem dX2_turnBelow_47 : decode cX2_turnBelow 47 = .ok (.iload_n 1, 1) := by decide +kernel
theorem dX2_turnBelow_48 : decode cX2_turnBelow 48 = .ok (.if_icmp .lt 14, 3) := by decide +kernel
theorem dX2_turnBelow_51 : decode cX2_turnBelow 51 = .ok (.iload 5, 2) := by decide +kernel
theorem dX2_turnBelow_53 : decode cX2_turnBelow 53 = .ok (.iconst 1, 1) := by decide +kernel
theorem dX2_turnBelow_54 : decode cX2_turnBelow 54 = .ok (.isub, 1) := by decide +kernel
theorem dX2_turnBelow_55 : decode cX2_turnBelow 55 = .ok (.iload 4, 2) := by decide +kernel
theorem dX2_turnBelow_57 : decode cX2_turnBelow 57 = .ok (.invokestatic 103, 3) := by decide +kernel
theorem dX2_turnBelow_60 : decode cX2_turnBelow 60 = .ok (.istore 6, 2) := by decide +kernel
theorem dX2_turnBelow_62 : decode cX2_turnBelow 62 = .ok (.iload 6, 2) := by decide +kernel
theorem dX2_turnBelow_64 : decode cX2_turnBelow 64 = .ok (.iload_n 1, 1) := by decide +kernel
theorem dX2_turnBelow_65 : decode cX2_turnBelow 65 = .ok (.if_icmp .ge 8, 3) := by decide +kernel
theorem dX2_turnBelow_68 : decode cX2_turnBelow 68 = .ok (.iload 6, 2) := by decide +kernel
theorem dX2_turnBelow_70 : decode cX2_turnBelow 70 = .ok (.goto 4, 3) := by decide +kernel
theorem dX2_turnBelow_73 : decode cX2_turnBelow 73 = .ok (.iconst 0, 1) := by decide +kernel
theorem dX2_turnBelow_74 : decode cX2_turnBelow 74 = .ok (.ireturn, 1) := by decide +kernel
set_option maxRecDepth 20000 in
theorem ggX4_init_X3_init : GoodIn wsX4_init wsX3_init := goodIn_r _ [23, 24, 2, 3, 25, 26, 51, 52, 53, 54, 55, 56, 57, 58, 59, 60, 61] (by decide +kernel) (by decide +kernel)
set_option maxRecDepth 20000 in
theorem gX4_init_X3_init_n11 : GoodIn wsX4_init (wsX3_init) := ggX4_init_X3_init
set_option maxRecDepth 20000 in
theorem ggX4_init_X0_init : GoodIn wsX4_init wsX0_init := goodIn_r _ [28, 29, 2, 3, 25, 30, 31, 32, 33, 68, 69, 70, 71] (by decide +kernel) (by decide +kernel)
set_option maxRecDepth 20000 in
theorem gX4_init_X0_init_n20 : GoodIn wsX4_init (wsX0_init) := ggX4_init_X0_init
set_option maxRecDepth 20000 in
theorem ggX4_init_X2_init : GoodIn wsX4_init wsX2_init := goodIn_r _ [35, 36, 2, 3, 37, 17, 18, 38, 39, 40, 41, 42, 43, 44, 45, 46, 47, 48, 25, 49, 73, 74, 75, 76, 72] (by decide +kernel) (by decide +kernel)
set_option maxRecDepth 20000 in
theorem gX4_init_X2_init_n27 : GoodIn wsX4_init (wsX2_init) := ggX4_init_X2_init
set_option maxRecDepth 20000 in
theorem ggX4_init_X5_init : GoodIn wsX4_init wsX5_init := goodIn_r _ [41, 42, 2, 3, 43, 44, 45, 46, 47, 48, 25, 49, 73, 74, 75, 76] (by decide +kernel) (by decide +kernel)
set_option maxRecDepth 20000 in
theorem gX4_init_X5_init : GoodIn wsX4_init (wsX5_init) := ggX4_init_X5_init
theorem dX4_init_0 : decode cX4_init 0 = .ok (.aload_n 0, 1) := by decide +kernel
theorem dX4_init_1 : decode cX4_init 1 = .ok (.invokespecial 3, 3) := by decide +kernel
theorem dX4_init_4 : decode cX4_init 4 = .ok (.aload_n 0, 1) := by decide +kernel
theorem dX4_init_5 : decode cX4_init 5 = .ok (.new 9, 3) := by decide +kernel
theorem dX4_init_8 : decode cX4_init 8 = .ok (.dup, 1) := by decide +kernel
theorem dX4_init_9 : decode cX4_init 9 = .ok (.invokespecial 11, 3) := by decide +kernel
theorem dX4_init_12 : decode cX4_init 12 = .ok (.putfield 12, 3) := by decide +kernel
theorem dX4_init_15 : decode cX4_init 15 = .ok (.aload_n 0, 1) := by decide +kernel
theorem dX4_init_16 : decode cX4_init 16 = .ok (.new 18, 3) := by decide +kernel
theorem dX4_init_19 : decode cX4_init 19 = .ok (.dup, 1) := by decide +kernel
theorem dX4_init_20 : decode cX4_init 20 = .ok (.invokespecial 20, 3) := by decide +kernel
theorem dX4_init_23 : decode cX4_init 23 = .ok (.putfield 21, 3) := by decide +kernel
theorem dX4_init_26 : decode cX4_init 26 = .ok (.aload_n 0, 1) := by decide +kernel
theorem dX4_init_27 : decode cX4_init 27 = .ok (.new 25, 3) := by decide +kernel
theorem dX4_init_30 : decode cX4_init 30 = .ok (.dup, 1) := by decide +kernel
theorem dX4_init_31 : decode cX4_init 31 = .ok (.invokespecial 27, 3) := by decide +kernel
theorem dX4_init_34 : decode cX4_init 34 = .ok (.putfield 28, 3) := by decide +kernel
theorem dX4_init_37 : decode cX4_init 37 = .ok (.aload_n 0, 1) := by decide +kernel
theorem dX4_init_38 : decode cX4_init 38 = .ok (.new 32, 3) := by decide +kernel
theorem dX4_init_41 : decode cX4_init 41 = .ok (.dup, 1) := by decide +kernel
theorem dX4_init_42 : decode cX4_init 42 = .ok (.bipush 30, 2) := by decide +kernel
theorem dX4_init_44 : decode cX4_init 44 = .ok (.bipush 22, 2) := by decide +kernel
theorem dX4_init_46 : decode cX4_init 46 = .ok (.invokespecial 34, 3) := by decide +kernel
theorem dX4_init_49 : decode cX4_init 49 = .ok (.putfield 37, 3) := by decide +kernel
theorem dX4_init_52 : decode cX4_init 52 = .ok (.aload_n 0, 1) := by decide +kernel
theorem dX4_init_53 : decode cX4_init 53 = .ok (.new 32, 3) := by decide +kernel
theorem dX4_init_56 : decode cX4_init 56 = .ok (.dup, 1) := by decide +kernel
theorem dX4_init_57 : decode cX4_init 57 = .ok (.bipush 20, 2) := by decide +kernel
theorem dX4_init_59 : decode cX4_init 59 = .ok (.bipush 6, 2) := by decide +kernel
theorem dX4_init_61 : decode cX4_init 61 = .ok (.invokespecial 34, 3) := by decide +kernel
theorem dX4_init_64 : decode cX4_init 64 = .ok (.putfield 41, 3) := by decide +kernel
theorem dX4_init_67 : decode cX4_init 67 = .ok (.aload_n 0, 1) := by decide +kernel
theorem dX4_init_68 : decode cX4_init 68 = .ok (.new 32, 3) := by decide +kernel
theorem dX4_init_71 : decode cX4_init 71 = .ok (.dup, 1) := by decide +kernel
theorem dX4_init_72 : decode cX4_init 72 = .ok (.bipush 20, 2) := by decide +kernel
theorem dX4_init_74 : decode cX4_init 74 = .ok (.bipush 22, 2) := by decide +kernel
theorem dX4_init_76 : decode cX4_init 76 = .ok (.invokespecial 34, 3) := by decide +kernel
theorem dX4_init_79 : decode cX4_init 79 = .ok (.putfield 44, 3) := by decide +kernel
theorem dX4_init_82 : decode cX4_init 82 = .ok (.return_, 1) := by decide +kernel
set_option maxRecDepth 20000 in
theorem ggX4_copyFrom_X3_copyFrom : GoodIn wsX4_copyFrom wsX3_copyFrom := goodIn_r _ [11, 12, 13, 14, 15, 16, 17, 18, 19, 20, 21, 22, 23, 24, 25, 10, 26, 96, 97, 98, 99, 100, 101, 102, 103, 104, 105, 106] (by decide +kernel) (by decide +kernel)
set_option maxRecDepth 20000 in
theorem gX4_copyFrom_X3_copyFrom : GoodIn wsX4_copyFrom (wsV RX4 47 RX3 yX3_copyFrom wsX3_copyFrom) := goodIn_app (goodIn_of _ (by decide +kernel)) ggX4_copyFrom_X3_copyFrom
set_option maxRecDepth 20000 in
theorem ggX4_copyFrom_X0_copyFrom : GoodIn wsX4_copyFrom wsX0_copyFrom := goodIn_r _ [31, 32, 33, 34, 35, 36, 37, 38, 30, 39, 40, 41, 42, 43, 44, 45, 46, 47, 48, 49, 50, 51, 52, 53, 54, 55, 56, 57, 58, 59, 60, 61, 62, 63, 64, 65, 66, 107, 108, 109, 110] (by decide +kernel) (by decide +kernel)
set_option maxRecDepth 20000 in
theorem gX4_copyFrom_X0_copyFrom : GoodIn wsX4_copyFrom (wsV RX4 51 RX0 yX0_copyFrom wsX0_copyFrom) := goodIn_app (goodIn_of _ (by decide +kernel)) ggX4_copyFrom_X0_copyFrom
set_option maxRecDepth 20000 in
theorem ggX4_copyFrom_X2_copyFrom : GoodIn wsX4_copyFrom wsX2_copyFrom := goodIn_r _ [71, 72, 73, 74, 75, 76, 77, 78, 79, 80, 81, 82, 83, 84, 85, 86, 87, 88, 111, 112, 113, 114, 115] (by decide +kernel) (by decide +kernel)
set_option maxRecDepth 20000 in
theorem gX4_copyFrom_X2_copyFrom : GoodIn wsX4_copyFrom (wsV RX4 54 RX2 yX2_copyFrom wsX2_copyFrom) := goodIn_app (goodIn_of _ (by decide +kernel)) ggX4_copyFrom_X2_copyFrom
set_option maxRecDepth 20000 in
theorem ggX4_copyFrom_X5_copyFrom : GoodIn wsX4_copyFrom wsX5_copyFrom := goodIn_r _ [77, 78, 79, 80, 81, 82, 83, 84, 85, 86, 87, 88, 112, 113, 114, 115] (by decide +kernel) (by decide +kernel)
set_option maxRecDepth 20000 in
theorem gX4_copyFrom_X5_copyFrom : GoodIn wsX4_copyFrom (wsV RX4 57 RX5 yX5_copyFrom wsX5_copyFrom) := goodIn_app (goodIn_of _ (by decide +kernel)) ggX4_copyFrom_X5_copyFrom
theorem dX4_copyFrom_0 : decode cX4_copyFrom 0 = .ok (.aload_n 0, 1) := by decide +kernel
theorem dX4_copyFrom_1 : decode cX4_copyFrom 1 = .ok (.getfield 12, 3) := by decide +kernel
theorem dX4_copyFrom_4 : decode cX4_copyFrom 4 = .ok (.aload_n 1, 1) := by decide +kernel
theorem dX4_copyFrom_5 : decode cX4_copyFrom 5 = .ok (.getfield 12, 3) := by decide +kernel
theorem dX4_copyFrom_8 : decode cX4_copyFrom 8 = .ok (.invokevirtual 47, 3) := by decide +kernel
theorem dX4_copyFrom_11 : decode cX4_copyFrom 11 = .ok (.aload_n 0, 1) := by decide +kernel
theorem dX4_copyFrom_12 : decode cX4_copyFrom 12 = .ok (.getfield 21, 3) := by decide +kernel
theorem dX4_copyFrom_15 : decode cX4_copyFrom 15 = .ok (.aload_n 1, 1) := by decide +kernel
theorem dX4_copyFrom_16 : decode cX4_copyFrom 16 = .ok (.getfield 21, 3) := by decide +kernel
theorem dX4_copyFrom_19 : decode cX4_copyFrom 19 = .ok (.invokevirtual 51, 3) := by decide +kernel
theorem dX4_copyFrom_22 : decode cX4_copyFrom 22 = .ok (.aload_n 0, 1) := by decide +kernel
theorem dX4_copyFrom_23 : decode cX4_copyFrom 23 = .ok (.getfield 28, 3) := by decide +kernel
theorem dX4_copyFrom_26 : decode cX4_copyFrom 26 = .ok (.aload_n 1, 1) := by decide +kernel
theorem dX4_copyFrom_27 : decode cX4_copyFrom 27 = .ok (.getfield 28, 3) := by decide +kernel
theorem dX4_copyFrom_30 : decode cX4_copyFrom 30 = .ok (.invokevirtual 54, 3) := by decide +kernel
theorem dX4_copyFrom_33 : decode cX4_copyFrom 33 = .ok (.aload_n 0, 1) := by decide +kernel
theorem dX4_copyFrom_34 : decode cX4_copyFrom 34 = .ok (.getfield 37, 3) := by decide +kernel
theorem dX4_copyFrom_37 : decode cX4_copyFrom 37 = .ok (.aload_n 1, 1) := by decide +kernel
theorem dX4_copyFrom_38 : decode cX4_copyFrom 38 = .ok (.getfield 37, 3) := by decide +kernel
theorem dX4_copyFrom_41 : decode cX4_copyFrom 41 = .ok (.invokevirtual 57, 3) := by decide +kernel
theorem dX4_copyFrom_44 : decode cX4_copyFrom 44 = .ok (.aload_n 0, 1) := by decide +kernel
theorem dX4_copyFrom_45 : decode cX4_copyFrom 45 = .ok (.getfield 41, 3) := by decide +kernel
theorem dX4_copyFrom_48 : decode cX4_copyFrom 48 = .ok (.aload_n 1, 1) := by decide +kernel
theorem dX4_copyFrom_49 : decode cX4_copyFrom 49 = .ok (.getfield 41, 3) := by decide +kernel
theorem dX4_copyFrom_52 : decode cX4_copyFrom 52 = .ok (.invokevirtual 57, 3) := by decide +kernel
theorem dX4_copyFrom_55 : decode cX4_copyFrom 55 = .ok (.aload_n 0, 1) := by decide +kernel
theorem dX4_copyFrom_56 : decode cX4_copyFrom 56 = .ok (.getfield 44, 3) := by decide +kernel
theorem dX4_copyFrom_59 : decode cX4_copyFrom 59 = .ok (.aload_n 1, 1) := by decide +kernel
theorem dX4_copyFrom_60 : decode cX4_copyFrom 60 = .ok (.getfield 44, 3) := by decide +kernel
theorem dX4_copyFrom_63 : decode cX4_copyFrom 63 = .ok (.invokevirtual 57, 3) := by decide +kernel
theorem dX4_copyFrom_66 : decode cX4_copyFrom 66 = .ok (.return_, 1) := by decide +kernel
set_option maxRecDepth 20000 in
theorem ggX4_price_X5_cell : GoodIn wsX4_price wsX5_cell := goodIn_r _ [13, 14, 15, 16, 127, 128, 129, 130] (by decide +kernel) (by decide +kernel)
set_option maxRecDepth 20000 in
theorem gX4_price_X5_cell : GoodIn wsX4_price (wsV RX4 60 RX5 yX5_cell wsX5_cell) := goodIn_app (goodIn_of _ (by decide +kernel)) ggX4_price_X5_cell
set_option maxRecDepth 20000 in
theorem ggX4_price_X6_volume : GoodIn wsX4_price wsX6_volume := goodIn_r _ [19, 20, 10, 11, 12, 13, 14, 15, 16, 127, 128, 129, 130] (by decide +kernel) (by decide +kernel)
set_option maxRecDepth 20000 in
theorem gX4_price_X6_volume_n64 : GoodIn wsX4_price (wsX6_volume) := ggX4_price_X6_volume
set_option maxRecDepth 20000 in
theorem ggX4_price_X3_settingOf : GoodIn wsX4_price wsX3_settingOf := goodIn_r _ [25, 26, 131, 132, 133, 134, 135, 136, 137, 138, 139, 140, 141] (by decide +kernel) (by decide +kernel)
set_option maxRecDepth 20000 in
theorem gX4_price_X3_settingOf : GoodIn wsX4_price (wsV RX4 70 RX3 yX3_settingOf wsX3_settingOf) := goodIn_app (goodIn_of _ (by decide +kernel)) ggX4_price_X3_settingOf
set_option maxRecDepth 20000 in
theorem ggX4_price_X6_dividedUp : GoodIn wsX4_price wsX6_dividedUp := goodIn_r _ [28] (by decide +kernel) (by decide +kernel)
set_option maxRecDepth 20000 in
theorem gX4_price_X6_dividedUp_n74 : GoodIn wsX4_price (wsX6_dividedUp) := ggX4_price_X6_dividedUp
set_option maxRecDepth 20000 in
theorem ggX4_price_X5_put : GoodIn wsX4_price wsX5_put := goodIn_r _ [32, 14, 15, 16, 127, 128, 129, 130] (by decide +kernel) (by decide +kernel)
set_option maxRecDepth 20000 in
theorem gX4_price_X5_put : GoodIn wsX4_price (wsV RX4 78 RX5 yX5_put wsX5_put) := goodIn_app (goodIn_of _ (by decide +kernel)) ggX4_price_X5_put
set_option maxRecDepth 20000 in
theorem ggX4_price_X4_measure : GoodIn wsX4_price wsX4_measure := goodIn_r _ [36, 3, 4, 5, 6, 9, 10, 11, 12, 13, 14, 15, 16, 29, 30, 31, 32, 127, 128, 129, 130] (by decide +kernel) (by decide +kernel)
set_option maxRecDepth 20000 in
theorem gX4_price_X4_measure : GoodIn wsX4_price (va_wsS RX4 87 yX4_measure wsX4_measure) := goodIn_app (goodIn_of _ (by decide +kernel)) ggX4_price_X4_measure
set_option maxRecDepth 20000 in
theorem ggX4_price_X4_weightReason : GoodIn wsX4_price wsX4_weightReason := goodIn_r _ [39] (by decide +kernel) (by decide +kernel)
set_option maxRecDepth 20000 in
theorem gX4_price_X4_weightReason : GoodIn wsX4_price (va_wsS RX4 91 yX4_weightReason wsX4_weightReason) := goodIn_app (goodIn_of _ (by decide +kernel)) ggX4_price_X4_weightReason
set_option maxRecDepth 20000 in
theorem ggX4_price_X6_addReason : GoodIn wsX4_price wsX6_addReason := goodIn_r _ [41, 20, 10, 11, 12, 13, 14, 15, 16, 42, 30, 31, 32, 127, 128, 129, 130] (by decide +kernel) (by decide +kernel)
set_option maxRecDepth 20000 in
theorem gX4_price_X6_addReason_n94 : GoodIn wsX4_price (wsX6_addReason) := ggX4_price_X6_addReason
set_option maxRecDepth 20000 in
theorem ggX4_price_X0_base : GoodIn wsX4_price wsX0_base := goodIn_r _ [47, 48, 10, 11, 12, 13, 14, 15, 16, 49, 50, 51, 46, 52, 53, 54, 55, 56, 57, 58, 18, 59, 60, 61, 62, 63, 64, 65, 66, 67, 68, 40, 41, 20, 42, 30, 31, 32, 69, 70, 71, 72, 73, 74, 75, 76, 77, 27, 28, 78, 79, 80, 81, 82, 127, 128, 129, 130, 142, 143, 144, 145] (by decide +kernel) (by decide +kernel)
set_option maxRecDepth 20000 in
theorem gX4_price_X0_base : GoodIn wsX4_price (wsV RX4 98 RX0 yX0_base wsX0_base) := goodIn_app (goodIn_of _ (by decide +kernel)) ggX4_price_X0_base
set_option maxRecDepth 20000 in
theorem ggX4_price_X2_charge : GoodIn wsX4_price wsX2_charge := goodIn_r _ [87, 88, 89, 90, 10, 11, 12, 13, 14, 15, 16, 91, 92, 93, 86, 94, 95, 96, 97, 98, 99, 100, 101, 102, 103, 104, 105, 106, 107, 108, 109, 110, 111, 112, 113, 114, 115, 116, 5, 117, 118, 119, 120, 40, 18, 41, 20, 42, 30, 31, 32, 146, 127, 128, 129, 130] (by decide +kernel) (by decide +kernel)
set_option maxRecDepth 20000 in
theorem gX4_price_X2_charge : GoodIn wsX4_price (wsV RX4 101 RX2 yX2_charge wsX2_charge) := goodIn_app (goodIn_of _ (by decide +kernel)) ggX4_price_X2_charge
theorem dX4_price_0 : decode cX4_price 0 = .ok (.aload_n 1, 1) := by decide +kernel
theorem dX4_price_1 : decode cX4_price 1 = .ok (.iload_n 2, 1) := by decide +kernel
theorem dX4_price_2 : decode cX4_price 2 = .ok (.iconst 0, 1) := by decide +kernel
theorem dX4_price_3 : decode cX4_price 3 = .ok (.invokevirtual 60, 3) := by decide +kernel
theorem dX4_price_6 : decode cX4_price 6 = .ok (.istore_n 3, 1) := by decide +kernel
theorem dX4_price_7 : decode cX4_price 7 = .ok (.aload_n 1, 1) := by decide +kernel
theorem dX4_price_8 : decode cX4_price 8 = .ok (.iload_n 2, 1) := by decide +kernel
theorem dX4_price_9 : decode cX4_price 9 = .ok (.invokestatic 64, 3) := by decide +kernel
theorem dX4_price_12 : decode cX4_price 12 = .ok (.i2l, 1) := by decide +kernel
theorem dX4_price_13 : decode cX4_price 13 = .ok (.ldc2_w 68, 3) := by decide +kernel
theorem dX4_price_16 : decode cX4_price 16 = .ok (.lmul, 1) := by decide +kernel
theorem dX4_price_17 : decode cX4_price 17 = .ok (.aload_n 0, 1) := by decide +kernel
theorem dX4_price_18 : decode cX4_price 18 = .ok (.getfield 12, 3) := by decide +kernel
theorem dX4_price_21 : decode cX4_price 21 = .ok (.bipush 6, 2) := by decide +kernel
theorem dX4_price_23 : decode cX4_price 23 = .ok (.invokevirtual 70, 3) := by decide +kernel
theorem dX4_price_26 : decode cX4_price 26 = .ok (.invokestatic 74, 3) := by decide +kernel
theorem dX4_price_29 : decode cX4_price 29 = .ok (.istore 4, 2) := by decide +kernel
theorem dX4_price_31 : decode cX4_price 31 = .ok (.aload_n 0, 1) := by decide +kernel
theorem dX4_price_32 : decode cX4_price 32 = .ok (.getfield 12, 3) := by decide +kernel
theorem dX4_price_35 : decode cX4_price 35 = .ok (.bipush 7, 2) := by decide +kernel
theorem dX4_price_37 : decode cX4_price 37 = .ok (.invokevirtual 70, 3) := by decide +kernel
theorem dX4_price_40 : decode cX4_price 40 = .ok (.istore 5, 2) := by decide +kernel
theorem dX4_price_42 : decode cX4_price 42 = .ok (.aload_n 1, 1) := by decide +kernel
theorem dX4_price_43 : decode cX4_price 43 = .ok (.iload_n 2, 1) := by decide +kernel
theorem dX4_price_44 : decode cX4_price 44 = .ok (.iconst 5, 1) := by decide +kernel
theorem dX4_price_45 : decode cX4_price 45 = .ok (.iload 4, 2) := by decide +kernel
theorem dX4_price_47 : decode cX4_price 47 = .ok (.invokevirtual 78, 3) := by decide +kernel
theorem dX4_price_50 : decode cX4_price 50 = .ok (.aload_n 1, 1) := by decide +kernel
theorem dX4_price_51 : decode cX4_price 51 = .ok (.iload_n 2, 1) := by decide +kernel
theorem dX4_price_52 : decode cX4_price 52 = .ok (.bipush 6, 2) := by decide +kernel
theorem dX4_price_54 : decode cX4_price 54 = .ok (.iload_n 3, 1) := by decide +kernel
theorem dX4_price_55 : decode cX4_price 55 = .ok (.iload 4, 2) := by decide +kernel
theorem dX4_price_57 : decode cX4_price 57 = .ok (.invokestatic 82, 3) := by decide +kernel
theorem dX4_price_60 : decode cX4_price 60 = .ok (.i2l, 1) := by decide +kernel
theorem dX4_price_61 : decode cX4_price 61 = .ok (.iload 5, 2) := by decide +kernel
theorem dX4_price_63 : decode cX4_price 63 = .ok (.invokestatic 74, 3) := by decide +kernel
theorem dX4_price_66 : decode cX4_price 66 = .ok (.iload 5, 2) := by decide +kernel
theorem dX4_price_68 : decode cX4_price 68 = .ok (.imul, 1) := by decide +kernel
theorem dX4_price_69 : decode cX4_price 69 = .ok (.invokevirtual 78, 3) := by decide +kernel
theorem dX4_price_72 : decode cX4_price 72 = .ok (.aload_n 1, 1) := by decide +kernel
theorem dX4_price_73 : decode cX4_price 73 = .ok (.iload_n 2, 1) := by decide +kernel
theorem dX4_price_74 : decode cX4_price 74 = .ok (.invokestatic 87, 3) := by decide +kernel
theorem dX4_price_77 : decode cX4_price 77 = .ok (.aload_n 1, 1) := by decide +kernel
theorem dX4_price_78 : decode cX4_price 78 = .ok (.iload_n 2, 1) := by decide +kernel
theorem dX4_price_79 : decode cX4_price 79 = .ok (.bipush 11, 2) := by decide +kernel
theorem dX4_price_81 : decode cX4_price 81 = .ok (.iconst 0, 1) := by decide +kernel
theorem dX4_price_82 : decode cX4_price 82 = .ok (.invokevirtual 78, 3) := by decide +kernel
theorem dX4_price_85 : decode cX4_price 85 = .ok (.aload_n 1, 1) := by decide +kernel
theorem dX4_price_86 : decode cX4_price 86 = .ok (.iload_n 2, 1) := by decide +kernel
theorem dX4_price_87 : decode cX4_price 87 = .ok (.iload_n 3, 1) := by decide +kernel
theorem dX4_price_88 : decode cX4_price 88 = .ok (.iload 4, 2) := by decide +kernel
theorem dX4_price_90 : decode cX4_price 90 = .ok (.invokestatic 91, 3) := by decide +kernel
theorem dX4_price_93 : decode cX4_price 93 = .ok (.invokestatic 94, 3) := by decide +kernel
theorem dX4_price_96 : decode cX4_price 96 = .ok (.aload_n 1, 1) := by decide +kernel
theorem dX4_price_97 : decode cX4_price 97 = .ok (.iload_n 2, 1) := by decide +kernel
theorem dX4_price_98 : decode cX4_price 98 = .ok (.bipush 7, 2) := by decide +kernel
theorem dX4_price_100 : decode cX4_price 100 = .ok (.aload_n 0, 1) := by decide +kernel
theorem dX4_price_101 : decode cX4_price 101 = .ok (.getfield 21, 3) := by decide +kernel
theorem dX4_price_104 : decode cX4_price 104 = .ok (.aload_n 1, 1) := by decide +kernel
theorem dX4_price_105 : decode cX4_price 105 = .ok (.iload_n 2, 1) := by decide +kernel
theorem dX4_price_106 : decode cX4_price 106 = .ok (.invokevirtual 98, 3) := by decide +kernel
theorem dX4_price_109 : decode cX4_price 109 = .ok (.invokevirtual 78, 3) := by decide +kernel
theorem dX4_price_112 : decode cX4_price 112 = .ok (.aload_n 1, 1) := by decide +kernel
theorem dX4_price_113 : decode cX4_price 113 = .ok (.iload_n 2, 1) := by decide +kernel
theorem dX4_price_114 : decode cX4_price 114 = .ok (.bipush 8, 2) := by decide +kernel
theorem dX4_price_116 : decode cX4_price 116 = .ok (.aload_n 0, 1) := by decide +kernel
theorem dX4_price_117 : decode cX4_price 117 = .ok (.getfield 28, 3) := by decide +kernel
theorem dX4_price_120 : decode cX4_price 120 = .ok (.aload_n 1, 1) := by decide +kernel
theorem dX4_price_121 : decode cX4_price 121 = .ok (.iload_n 2, 1) := by decide +kernel
theorem dX4_price_122 : decode cX4_price 122 = .ok (.invokevirtual 101, 3) := by decide +kernel
theorem dX4_price_125 : decode cX4_price 125 = .ok (.invokevirtual 78, 3) := by decide +kernel
theorem dX4_price_128 : decode cX4_price 128 = .ok (.return_, 1) := by decide +kernel
set_option maxRecDepth 20000 in
theorem ggX4_measure_X5_cell : GoodIn wsX4_measure wsX5_cell := goodIn_r _ [9, 10, 11, 12, 17, 18, 19, 20] (by decide +kernel) (by decide +kernel)
set_option maxRecDepth 20000 in
theorem gX4_measure_X5_cell : GoodIn wsX4_measure (wsV RX4 60 RX5 yX5_cell wsX5_cell) := goodIn_app (goodIn_of _ (by decide +kernel)) ggX4_measure_X5_cell
set_option maxRecDepth 20000 in
theorem ggX4_measure_X5_put : GoodIn wsX4_measure wsX5_put := goodIn_r _ [16, 10, 11, 12, 17, 18, 19, 20] (by decide +kernel) (by decide +kernel)
set_option maxRecDepth 20000 in
theorem gX4_measure_X5_put : GoodIn wsX4_measure (wsV RX4 78 RX5 yX5_put wsX5_put) := goodIn_app (goodIn_of _ (by decide +kernel)) ggX4_measure_X5_put
theorem dX4_measure_0 : decode cX4_measure 0 = .ok (.aload_n 0, 1) := by decide +kernel
theorem dX4_measure_1 : decode cX4_measure 1 = .ok (.iload_n 1, 1) := by decide +kernel
theorem dX4_measure_2 : decode cX4_measure 2 = .ok (.iconst 1, 1) := by decide +kernel
theorem dX4_measure_3 : decode cX4_measure 3 = .ok (.invokevirtual 60, 3) := by decide +kernel
theorem dX4_measure_6 : decode cX4_measure 6 = .ok (.istore_n 2, 1) := by decide +kernel
theorem dX4_measure_7 : decode cX4_measure 7 = .ok (.aload_n 0, 1) := by decide +kernel
theorem dX4_measure_8 : decode cX4_measure 8 = .ok (.iload_n 1, 1) := by decide +kernel
theorem dX4_measure_9 : decode cX4_measure 9 = .ok (.iconst 2, 1) := by decide +kernel
theorem dX4_measure_10 : decode cX4_measure 10 = .ok (.invokevirtual 60, 3) := by decide +kernel
theorem dX4_measure_13 : decode cX4_measure 13 = .ok (.istore_n 3, 1) := by decide +kernel
theorem dX4_measure_14 : decode cX4_measure 14 = .ok (.aload_n 0, 1) := by decide +kernel
theorem dX4_measure_15 : decode cX4_measure 15 = .ok (.iload_n 1, 1) := by decide +kernel
theorem dX4_measure_16 : decode cX4_measure 16 = .ok (.iconst 3, 1) := by decide +kernel
theorem dX4_measure_17 : decode cX4_measure 17 = .ok (.invokevirtual 60, 3) := by decide +kernel
theorem dX4_measure_20 : decode cX4_measure 20 = .ok (.istore 4, 2) := by decide +kernel
theorem dX4_measure_22 : decode cX4_measure 22 = .ok (.iload_n 2, 1) := by decide +kernel
theorem dX4_measure_23 : decode cX4_measure 23 = .ok (.iload_n 3, 1) := by decide +kernel
theorem dX4_measure_24 : decode cX4_measure 24 = .ok (.iload 4, 2) := by decide +kernel
theorem dX4_measure_26 : decode cX4_measure 26 = .ok (.invokestatic 82, 3) := by decide +kernel
theorem dX4_measure_29 : decode cX4_measure 29 = .ok (.invokestatic 82, 3) := by decide +kernel
theorem dX4_measure_32 : decode cX4_measure 32 = .ok (.istore 5, 2) := by decide +kernel
theorem dX4_measure_34 : decode cX4_measure 34 = .ok (.aload_n 0, 1) := by decide +kernel
theorem dX4_measure_35 : decode cX4_measure 35 = .ok (.iload_n 1, 1) := by decide +kernel
theorem dX4_measure_36 : decode cX4_measure 36 = .ok (.bipush 10, 2) := by decide +kernel
theorem dX4_measure_38 : decode cX4_measure 38 = .ok (.iload 5, 2) := by decide +kernel
theorem dX4_measure_40 : decode cX4_measure 40 = .ok (.invokevirtual 78, 3) := by decide +kernel
theorem dX4_measure_43 : decode cX4_measure 43 = .ok (.aload_n 0, 1) := by decide +kernel
theorem dX4_measure_44 : decode cX4_measure 44 = .ok (.iload_n 1, 1) := by decide +kernel
theorem dX4_measure_45 : decode cX4_measure 45 = .ok (.bipush 9, 2) := by decide +kernel
theorem dX4_measure_47 : decode cX4_measure 47 = .ok (.iload 5, 2) := by decide +kernel
theorem dX4_measure_49 : decode cX4_measure 49 = .ok (.iconst 2, 1) := by decide +kernel
theorem dX4_measure_50 : decode cX4_measure 50 = .ok (.iload_n 2, 1) := by decide +kernel
theorem dX4_measure_51 : decode cX4_measure 51 = .ok (.iload_n 3, 1) := by decide +kernel
theorem dX4_measure_52 : decode cX4_measure 52 = .ok (.iadd, 1) := by decide +kernel
theorem dX4_measure_53 : decode cX4_measure 53 = .ok (.iload 4, 2) := by decide +kernel
theorem dX4_measure_55 : decode cX4_measure 55 = .ok (.iadd, 1) := by decide +kernel
theorem dX4_measure_56 : decode cX4_measure 56 = .ok (.iload 5, 2) := by decide +kernel
theorem dX4_measure_58 : decode cX4_measure 58 = .ok (.isub, 1) := by decide +kernel
theorem dX4_measure_59 : decode cX4_measure 59 = .ok (.imul, 1) := by decide +kernel
theorem dX4_measure_60 : decode cX4_measure 60 = .ok (.iadd, 1) := by decide +kernel
theorem dX4_measure_61 : decode cX4_measure 61 = .ok (.invokevirtual 78, 3) := by decide +kernel
theorem dX4_measure_64 : decode cX4_measure 64 = .ok (.return_, 1) := by decide +kernel
theorem dX4_weightReason_0 : decode cX4_weightReason 0 = .ok (.iload_n 0, 1) := by decide +kernel
theorem dX4_weightReason_1 : decode cX4_weightReason 1 = .ok (.iload_n 1, 1) := by decide +kernel
theorem dX4_weightReason_2 : decode cX4_weightReason 2 = .ok (.if_icmp .ne 5, 3) := by decide +kernel
theorem dX4_weightReason_5 : decode cX4_weightReason 5 = .ok (.iconst 3, 1) := by decide +kernel
theorem dX4_weightReason_6 : decode cX4_weightReason 6 = .ok (.ireturn, 1) := by decide +kernel
theorem dX4_weightReason_7 : decode cX4_weightReason 7 = .ok (.iload_n 0, 1) := by decide +kernel
theorem dX4_weightReason_8 : decode cX4_weightReason 8 = .ok (.iload_n 1, 1) := by decide +kernel
theorem dX4_weightReason_9 : decode cX4_weightReason 9 = .ok (.if_icmp .le 7, 3) := by decide +kernel
theorem dX4_weightReason_12 : decode cX4_weightReason 12 = .ok (.iconst 1, 1) := by decide +kernel
theorem dX4_weightReason_13 : decode cX4_weightReason 13 = .ok (.goto 4, 3) := by decide +kernel
theorem dX4_weightReason_16 : decode cX4_weightReason 16 = .ok (.iconst 2, 1) := by decide +kernel
theorem dX4_weightReason_17 : decode cX4_weightReason 17 = .ok (.ireturn, 1) := by decide +kernel
set_option maxRecDepth 20000 in
theorem ggX4_nextLower_X5_cell : GoodIn wsX4_nextLower wsX5_cell := goodIn_r _ [12, 13, 14, 15, 80, 81, 82, 83] (by decide +kernel) (by decide +kernel)
set_option maxRecDepth 20000 in
theorem gX4_nextLower_X5_cell : GoodIn wsX4_nextLower (wsV RX4 60 RX5 yX5_cell wsX5_cell) := goodIn_app (goodIn_of _ (by decide +kernel)) ggX4_nextLower_X5_cell
set_option maxRecDepth 20000 in
theorem ggX4_nextLower_X3_settingOf : GoodIn wsX4_nextLower wsX3_settingOf := goodIn_r _ [20, 21, 84, 85, 86, 87, 88, 89, 90, 91, 92, 93, 94] (by decide +kernel) (by decide +kernel)
set_option maxRecDepth 20000 in
theorem gX4_nextLower_X3_settingOf : GoodIn wsX4_nextLower (wsV RX4 70 RX3 yX3_settingOf wsX3_settingOf) := goodIn_app (goodIn_of _ (by decide +kernel)) ggX4_nextLower_X3_settingOf
set_option maxRecDepth 20000 in
theorem ggX4_nextLower_X0_nextLower : GoodIn wsX4_nextLower wsX0_nextLower := goodIn_r _ [26, 27, 9, 10, 11, 12, 13, 14, 15, 28, 29, 30, 25, 31, 32, 33, 34, 35, 36, 37, 38, 39, 40, 41, 42, 43, 44, 45, 46, 47, 48, 49, 50, 51, 52, 53, 54, 80, 81, 82, 83, 95, 96, 97, 98] (by decide +kernel) (by decide +kernel)
set_option maxRecDepth 20000 in
theorem gX4_nextLower_X0_nextLower : GoodIn wsX4_nextLower (wsV RX4 104 RX0 yX0_nextLower wsX0_nextLower) := goodIn_app (goodIn_of _ (by decide +kernel)) ggX4_nextLower_X0_nextLower
set_option maxRecDepth 20000 in
theorem ggX4_nextLower_X6_wholeSteps : GoodIn wsX4_nextLower wsX6_wholeSteps := goodIn_r _ [56] (by decide +kernel) (by decide +kernel)
set_option maxRecDepth 20000 in
theorem gX4_nextLower_X6_wholeSteps_n107 : GoodIn wsX4_nextLower (wsX6_wholeSteps) := ggX4_nextLower_X6_wholeSteps
set_option maxRecDepth 20000 in
theorem ggX4_nextLower_X2_nextLower : GoodIn wsX4_nextLower wsX2_nextLower := goodIn_r _ [61, 62, 63, 64, 5, 6, 7, 65, 9, 10, 11, 12, 13, 14, 15, 66, 67, 60, 68, 69, 70, 71, 72, 73, 55, 38, 56, 99, 80, 81, 82, 83] (by decide +kernel) (by decide +kernel)
set_option maxRecDepth 20000 in
theorem gX4_nextLower_X2_nextLower : GoodIn wsX4_nextLower (wsV RX4 110 RX2 yX2_nextLower wsX2_nextLower) := goodIn_app (goodIn_of _ (by decide +kernel)) ggX4_nextLower_X2_nextLower
theorem dX4_nextLower_0 : decode cX4_nextLower 0 = .ok (.aload_n 1, 1) := by decide +kernel
theorem dX4_nextLower_1 : decode cX4_nextLower 1 = .ok (.iload_n 2, 1) := by decide +kernel
theorem dX4_nextLower_2 : decode cX4_nextLower 2 = .ok (.iconst 0, 1) := by decide +kernel
theorem dX4_nextLower_3 : decode cX4_nextLower 3 = .ok (.invokevirtual 60, 3) := by decide +kernel
theorem dX4_nextLower_6 : decode cX4_nextLower 6 = .ok (.istore_n 3, 1) := by decide +kernel
theorem dX4_nextLower_7 : decode cX4_nextLower 7 = .ok (.aload_n 0, 1) := by decide +kernel
theorem dX4_nextLower_8 : decode cX4_nextLower 8 = .ok (.getfield 12, 3) := by decide +kernel
theorem dX4_nextLower_11 : decode cX4_nextLower 11 = .ok (.bipush 7, 2) := by decide +kernel
theorem dX4_nextLower_13 : decode cX4_nextLower 13 = .ok (.invokevirtual 70, 3) := by decide +kernel
theorem dX4_nextLower_16 : decode cX4_nextLower 16 = .ok (.istore 4, 2) := by decide +kernel
theorem dX4_nextLower_18 : decode cX4_nextLower 18 = .ok (.aload_n 0, 1) := by decide +kernel
theorem dX4_nextLower_19 : decode cX4_nextLower 19 = .ok (.getfield 21, 3) := by decide +kernel
theorem dX4_nextLower_22 : decode cX4_nextLower 22 = .ok (.aload_n 1, 1) := by decide +kernel
theorem dX4_nextLower_23 : decode cX4_nextLower 23 = .ok (.iload_n 2, 1) := by decide +kernel
theorem dX4_nextLower_24 : decode cX4_nextLower 24 = .ok (.invokevirtual 104, 3) := by decide +kernel
theorem dX4_nextLower_27 : decode cX4_nextLower 27 = .ok (.iload 4, 2) := by decide +kernel
theorem dX4_nextLower_29 : decode cX4_nextLower 29 = .ok (.invokestatic 107, 3) := by decide +kernel
theorem dX4_nextLower_32 : decode cX4_nextLower 32 = .ok (.istore 5, 2) := by decide +kernel
theorem dX4_nextLower_34 : decode cX4_nextLower 34 = .ok (.aload_n 0, 1) := by decide +kernel
theorem dX4_nextLower_35 : decode cX4_nextLower 35 = .ok (.getfield 28, 3) := by decide +kernel
theorem dX4_nextLower_38 : decode cX4_nextLower 38 = .ok (.iload_n 3, 1) := by decide +kernel
theorem dX4_nextLower_39 : decode cX4_nextLower 39 = .ok (.iload 4, 2) := by decide +kernel
theorem dX4_nextLower_41 : decode cX4_nextLower 41 = .ok (.invokevirtual 110, 3) := by decide +kernel
theorem dX4_nextLower_44 : decode cX4_nextLower 44 = .ok (.istore 6, 2) := by decide +kernel
theorem dX4_nextLower_46 : decode cX4_nextLower 46 = .ok (.iload 5, 2) := by decide +kernel
theorem dX4_nextLower_48 : decode cX4_nextLower 48 = .ok (.iload_n 3, 1) := by decide +kernel
theorem dX4_nextLower_49 : decode cX4_nextLower 49 = .ok (.if_icmp .ge 13, 3) := by decide +kernel
theorem dX4_nextLower_52 : decode cX4_nextLower 52 = .ok (.iload 5, 2) := by decide +kernel
theorem dX4_nextLower_54 : decode cX4_nextLower 54 = .ok (.iload 6, 2) := by decide +kernel
theorem dX4_nextLower_56 : decode cX4_nextLower 56 = .ok (.invokestatic 82, 3) := by decide +kernel
theorem dX4_nextLower_59 : decode cX4_nextLower 59 = .ok (.goto 5, 3) := by decide +kernel
theorem dX4_nextLower_62 : decode cX4_nextLower 62 = .ok (.iload 6, 2) := by decide +kernel
theorem dX4_nextLower_64 : decode cX4_nextLower 64 = .ok (.ireturn, 1) := by decide +kernel
theorem dJ11_isValidCodePoint_9a6ad_0 : decode cJ11_isValidCodePoint_9a6ad 0 = .ok (.iload_n 0, 1) := by decide +kernel
theorem dJ11_isValidCodePoint_9a6ad_1 : decode cJ11_isValidCodePoint_9a6ad 1 = .ok (.bipush 16, 2) := by decide +kernel
theorem dJ11_isValidCodePoint_9a6ad_3 : decode cJ11_isValidCodePoint_9a6ad 3 = .ok (.iushr, 1) := by decide +kernel
theorem dJ11_isValidCodePoint_9a6ad_4 : decode cJ11_isValidCodePoint_9a6ad 4 = .ok (.istore_n 1, 1) := by decide +kernel
theorem dJ11_isValidCodePoint_9a6ad_5 : decode cJ11_isValidCodePoint_9a6ad 5 = .ok (.iload_n 1, 1) := by decide +kernel
theorem dJ11_isValidCodePoint_9a6ad_6 : decode cJ11_isValidCodePoint_9a6ad 6 = .ok (.bipush 17, 2) := by decide +kernel
theorem dJ11_isValidCodePoint_9a6ad_8 : decode cJ11_isValidCodePoint_9a6ad 8 = .ok (.if_icmp .ge 7, 3) := by decide +kernel
theorem dJ11_isValidCodePoint_9a6ad_11 : decode cJ11_isValidCodePoint_9a6ad 11 = .ok (.iconst 1, 1) := by decide +kernel
theorem dJ11_isValidCodePoint_9a6ad_12 : decode cJ11_isValidCodePoint_9a6ad 12 = .ok (.goto 4, 3) := by decide +kernel
theorem dJ11_isValidCodePoint_9a6ad_15 : decode cJ11_isValidCodePoint_9a6ad 15 = .ok (.iconst 0, 1) := by decide +kernel
theorem dJ11_isValidCodePoint_9a6ad_16 : decode cJ11_isValidCodePoint_9a6ad 16 = .ok (.ireturn, 1) := by decide +kernel
theorem dJ11_highSurrogate_5068e_0 : decode cJ11_highSurrogate_5068e 0 = .ok (.iload_n 0, 1) := by decide +kernel
theorem dJ11_highSurrogate_5068e_1 : decode cJ11_highSurrogate_5068e 1 = .ok (.bipush 10, 2) := by decide +kernel
theorem dJ11_highSurrogate_5068e_3 : decode cJ11_highSurrogate_5068e 3 = .ok (.iushr, 1) := by decide +kernel
theorem dJ11_highSurrogate_5068e_4 : decode cJ11_highSurrogate_5068e 4 = .ok (.ldc 110, 2) := by decide +kernel
theorem dJ11_highSurrogate_5068e_6 : decode cJ11_highSurrogate_5068e 6 = .ok (.iadd, 1) := by decide +kernel
theorem dJ11_highSurrogate_5068e_7 : decode cJ11_highSurrogate_5068e 7 = .ok (.i2c, 1) := by decide +kernel
theorem dJ11_highSurrogate_5068e_8 : decode cJ11_highSurrogate_5068e 8 = .ok (.ireturn, 1) := by decide +kernel
theorem dJ11_lowSurrogate_5068e_0 : decode cJ11_lowSurrogate_5068e 0 = .ok (.iload_n 0, 1) := by decide +kernel
theorem dJ11_lowSurrogate_5068e_1 : decode cJ11_lowSurrogate_5068e 1 = .ok (.sipush 1023, 3) := by decide +kernel
theorem dJ11_lowSurrogate_5068e_4 : decode cJ11_lowSurrogate_5068e 4 = .ok (.iand, 1) := by decide +kernel
theorem dJ11_lowSurrogate_5068e_5 : decode cJ11_lowSurrogate_5068e 5 = .ok (.ldc 76, 2) := by decide +kernel
theorem dJ11_lowSurrogate_5068e_7 : decode cJ11_lowSurrogate_5068e 7 = .ok (.iadd, 1) := by decide +kernel
theorem dJ11_lowSurrogate_5068e_8 : decode cJ11_lowSurrogate_5068e 8 = .ok (.i2c, 1) := by decide +kernel
theorem dJ11_lowSurrogate_5068e_9 : decode cJ11_lowSurrogate_5068e 9 = .ok (.ireturn, 1) := by decide +kernel
theorem dJ9_abs_0f7a4_0 : decode cJ9_abs_0f7a4 0 = .ok (.iload_n 0, 1) := by decide +kernel
theorem dJ9_abs_0f7a4_1 : decode cJ9_abs_0f7a4 1 = .ok (.ifCond .ge 8, 3) := by decide +kernel
theorem dJ9_abs_0f7a4_4 : decode cJ9_abs_0f7a4 4 = .ok (.iload_n 0, 1) := by decide +kernel
theorem dJ9_abs_0f7a4_5 : decode cJ9_abs_0f7a4 5 = .ok (.ineg, 1) := by decide +kernel
theorem dJ9_abs_0f7a4_6 : decode cJ9_abs_0f7a4 6 = .ok (.goto 4, 3) := by decide +kernel
theorem dJ9_abs_0f7a4_9 : decode cJ9_abs_0f7a4 9 = .ok (.iload_n 0, 1) := by decide +kernel
theorem dJ9_abs_0f7a4_10 : decode cJ9_abs_0f7a4 10 = .ok (.ireturn, 1) := by decide +kernel
theorem dJ9_max_7cf53_0 : decode cJ9_max_7cf53 0 = .ok (.iload_n 0, 1) := by decide +kernel
theorem dJ9_max_7cf53_1 : decode cJ9_max_7cf53 1 = .ok (.iload_n 1, 1) := by decide +kernel
theorem dJ9_max_7cf53_2 : decode cJ9_max_7cf53 2 = .ok (.if_icmp .lt 7, 3) := by decide +kernel
theorem dJ9_max_7cf53_5 : decode cJ9_max_7cf53 5 = .ok (.iload_n 0, 1) := by decide +kernel
theorem dJ9_max_7cf53_6 : decode cJ9_max_7cf53 6 = .ok (.goto 4, 3) := by decide +kernel
theorem dJ9_max_7cf53_9 : decode cJ9_max_7cf53 9 = .ok (.iload_n 1, 1) := by decide +kernel
theorem dJ9_max_7cf53_10 : decode cJ9_max_7cf53 10 = .ok (.ireturn, 1) := by decide +kernel
theorem dJ9_max_f86c9_0 : decode cJ9_max_f86c9 0 = .ok (.lload_n 0, 1) := by decide +kernel
theorem dJ9_max_f86c9_1 : decode cJ9_max_f86c9 1 = .ok (.lload_n 2, 1) := by decide +kernel
theorem dJ9_max_f86c9_2 : decode cJ9_max_f86c9 2 = .ok (.lcmp, 1) := by decide +kernel
theorem dJ9_max_f86c9_3 : decode cJ9_max_f86c9 3 = .ok (.ifCond .lt 7, 3) := by decide +kernel
theorem dJ9_max_f86c9_6 : decode cJ9_max_f86c9 6 = .ok (.lload_n 0, 1) := by decide +kernel
theorem dJ9_max_f86c9_7 : decode cJ9_max_f86c9 7 = .ok (.goto 4, 3) := by decide +kernel
theorem dJ9_max_f86c9_10 : decode cJ9_max_f86c9 10 = .ok (.lload_n 2, 1) := by decide +kernel
theorem dJ9_max_f86c9_11 : decode cJ9_max_f86c9 11 = .ok (.lreturn, 1) := by decide +kernel
theorem dJ9_min_7cf53_0 : decode cJ9_min_7cf53 0 = .ok (.iload_n 0, 1) := by decide +kernel
theorem dJ9_min_7cf53_1 : decode cJ9_min_7cf53 1 = .ok (.iload_n 1, 1) := by decide +kernel
theorem dJ9_min_7cf53_2 : decode cJ9_min_7cf53 2 = .ok (.if_icmp .gt 7, 3) := by decide +kernel
theorem dJ9_min_7cf53_5 : decode cJ9_min_7cf53 5 = .ok (.iload_n 0, 1) := by decide +kernel
theorem dJ9_min_7cf53_6 : decode cJ9_min_7cf53 6 = .ok (.goto 4, 3) := by decide +kernel
theorem dJ9_min_7cf53_9 : decode cJ9_min_7cf53 9 = .ok (.iload_n 1, 1) := by decide +kernel
theorem dJ9_min_7cf53_10 : decode cJ9_min_7cf53 10 = .ok (.ireturn, 1) := by decide +kernel
theorem dJ9_min_f86c9_0 : decode cJ9_min_f86c9 0 = .ok (.lload_n 0, 1) := by decide +kernel
theorem dJ9_min_f86c9_1 : decode cJ9_min_f86c9 1 = .ok (.lload_n 2, 1) := by decide +kernel
theorem dJ9_min_f86c9_2 : decode cJ9_min_f86c9 2 = .ok (.lcmp, 1) := by decide +kernel
theorem dJ9_min_f86c9_3 : decode cJ9_min_f86c9 3 = .ok (.ifCond .gt 7, 3) := by decide +kernel
theorem dJ9_min_f86c9_6 : decode cJ9_min_f86c9 6 = .ok (.lload_n 0, 1) := by decide +kernel
theorem dJ9_min_f86c9_7 : decode cJ9_min_f86c9 7 = .ok (.goto 4, 3) := by decide +kernel
theorem dJ9_min_f86c9_10 : decode cJ9_min_f86c9 10 = .ok (.lload_n 2, 1) := by decide +kernel
theorem dJ9_min_f86c9_11 : decode cJ9_min_f86c9 11 = .ok (.lreturn, 1) := by decide +kernel
set_option maxRecDepth 20000 in
theorem ggJ0_length_8abf5_J0_coder_7d493 : GoodIn wsJ0_length_8abf5 wsJ0_coder_7d493 := goodIn_r _ [6, 7, 8] (by decide +kernel) (by decide +kernel)
set_option maxRecDepth 20000 in
theorem gJ0_length_8abf5_J0_coder_7d493 : GoodIn wsJ0_length_8abf5 (wsV RJ0 335 RJ0 yJ0_coder_7d493 wsJ0_coder_7d493) := goodIn_app (goodIn_of _ (by decide +kernel)) ggJ0_length_8abf5_J0_coder_7d493
theorem dJ0_length_8abf5_0 : decode cJ0_length_8abf5 0 = .ok (.aload_n 0, 1) := by decide +kernel
theorem dJ0_length_8abf5_1 : decode cJ0_length_8abf5 1 = .ok (.getfield 9, 3) := by decide +kernel
theorem dJ0_length_8abf5_4 : decode cJ0_length_8abf5 4 = .ok (.arraylength, 1) := by decide +kernel
theorem dJ0_length_8abf5_5 : decode cJ0_length_8abf5 5 = .ok (.aload_n 0, 1) := by decide +kernel
theorem dJ0_length_8abf5_6 : decode cJ0_length_8abf5 6 = .ok (.invokevirtual 335, 3) := by decide +kernel
theorem dJ0_length_8abf5_9 : decode cJ0_length_8abf5 9 = .ok (.ishr, 1) := by decide +kernel
theorem dJ0_length_8abf5_10 : decode cJ0_length_8abf5 10 = .ok (.ireturn, 1) := by decide +kernel
set_option maxRecDepth 20000 in
theorem ggJ0_indexOf_0f7a4_J0_indexOf_7cf53 : GoodIn wsJ0_indexOf_0f7a4 wsJ0_indexOf_7cf53 := goodIn_r _ [5, 6, 7, 8, 9, 4, 10, 11, 12, 13, 14, 15, 16, 17, 18, 19, 20, 21, 22, 23, 24, 25, 26, 27, 28, 29, 30, 31, 32, 33, 34, 35, 36, 37, 38, 39, 40, 41, 42, 43, 44, 45, 46, 47, 48, 49, 50, 51, 52, 53, 54, 55, 56, 57, 58, 59, 60, 61, 62, 63, 64, 65, 66, 67, 68, 69, 70, 71, 72, 73, 74, 75, 76, 77, 78, 79, 80, 81, 82, 83, 84, 85] (by decide +kernel) (by decide +kernel)
set_option maxRecDepth 20000 in
theorem gJ0_indexOf_0f7a4_J0_indexOf_7cf53 : GoodIn wsJ0_indexOf_0f7a4 (wsV RJ0 633 RJ0 yJ0_indexOf_7cf53 wsJ0_indexOf_7cf53) := goodIn_app (goodIn_of _ (by decide +kernel)) ggJ0_indexOf_0f7a4_J0_indexOf_7cf53
theorem dJ0_indexOf_0f7a4_0 : decode cJ0_indexOf_0f7a4 0 = .ok (.aload_n 0, 1) := by decide +kernel
theorem dJ0_indexOf_0f7a4_1 : decode cJ0_indexOf_0f7a4 1 = .ok (.iload_n 1, 1) := by decide +kernel
theorem dJ0_indexOf_0f7a4_2 : decode cJ0_indexOf_0f7a4 2 = .ok (.iconst 0, 1) := by decide +kernel
theorem dJ0_indexOf_0f7a4_3 : decode cJ0_indexOf_0f7a4 3 = .ok (.invokevirtual 633, 3) := by decide +kernel
theorem dJ0_indexOf_0f7a4_6 : decode cJ0_indexOf_0f7a4 6 = .ok (.ireturn, 1) := by decide +kernel
set_option maxRecDepth 20000 in
theorem ggJ0_indexOf_7cf53_J0_isLatin1_aae02 : GoodIn wsJ0_indexOf_7cf53 wsJ0_isLatin1_aae02 := goodIn_r _ [6, 7, 8] (by decide +kernel) (by decide +kernel)
set_option maxRecDepth 20000 in
theorem gJ0_indexOf_7cf53_J0_isLatin1_aae02 : GoodIn wsJ0_indexOf_7cf53 (wsV RJ0 492 RJ0 yJ0_isLatin1_aae02 wsJ0_isLatin1_aae02) := goodIn_app (goodIn_of _ (by decide +kernel)) ggJ0_indexOf_7cf53_J0_isLatin1_aae02
set_option maxRecDepth 20000 in
theorem ggJ0_indexOf_7cf53_J0_length_8abf5 : GoodIn wsJ0_indexOf_7cf53 wsJ0_length_8abf5 := goodIn_r _ [12, 1, 13, 14, 15, 5, 16, 7, 8] (by decide +kernel) (by decide +kernel)
set_option maxRecDepth 20000 in
theorem gJ0_indexOf_7cf53_J0_length_8abf5 : GoodIn wsJ0_indexOf_7cf53 (wsV RJ0 505 RJ0 yJ0_length_8abf5 wsJ0_length_8abf5) := goodIn_app (goodIn_of _ (by decide +kernel)) ggJ0_indexOf_7cf53_J0_length_8abf5
set_option maxRecDepth 20000 in
theorem ggJ0_indexOf_7cf53_J1_indexOf_4cfef : GoodIn wsJ0_indexOf_7cf53 wsJ1_indexOf_4cfef := goodIn_r _ [20, 21, 22, 23, 24, 25, 26, 27, 28, 29, 19, 30, 31, 32, 33] (by decide +kernel) (by decide +kernel)
set_option maxRecDepth 20000 in
theorem gJ0_indexOf_7cf53_J1_indexOf_4cfef : GoodIn wsJ0_indexOf_7cf53 (va_wsS RJ0 637 yJ1_indexOf_4cfef wsJ1_indexOf_4cfef) := goodIn_app (goodIn_of _ (by decide +kernel)) ggJ0_indexOf_7cf53_J1_indexOf_4cfef
set_option maxRecDepth 20000 in
theorem ggJ0_indexOf_7cf53_J2_indexOf_4cfef : GoodIn wsJ0_indexOf_7cf53 wsJ2_indexOf_4cfef := goodIn_r _ [37, 38, 22, 23, 24, 39, 26, 27, 40, 41, 42, 36, 43, 44, 45, 46, 47, 48, 49, 50, 51, 5, 52, 53, 54, 55, 56, 57, 58, 59, 60, 61, 62, 63, 64, 65, 66, 67, 68, 69, 70, 71, 72, 73, 74, 75, 76, 77, 78, 79, 80, 81] (by decide +kernel) (by decide +kernel)
set_option maxRecDepth 20000 in
theorem gJ0_indexOf_7cf53_J2_indexOf_4cfef : GoodIn wsJ0_indexOf_7cf53 (va_wsS RJ0 640 yJ2_indexOf_4cfef wsJ2_indexOf_4cfef) := goodIn_app (goodIn_of _ (by decide +kernel)) ggJ0_indexOf_7cf53_J2_indexOf_4cfef
theorem dJ0_indexOf_7cf53_0 : decode cJ0_indexOf_7cf53 0 = .ok (.aload_n 0, 1) := by decide +kernel
theorem dJ0_indexOf_7cf53_1 : decode cJ0_indexOf_7cf53 1 = .ok (.invokevirtual 492, 3) := by decide +kernel
theorem dJ0_indexOf_7cf53_4 : decode cJ0_indexOf_7cf53 4 = .ok (.ifCond .eq 19, 3) := by decide +kernel
theorem dJ0_indexOf_7cf53_7 : decode cJ0_indexOf_7cf53 7 = .ok (.aload_n 0, 1) := by decide +kernel
theorem dJ0_indexOf_7cf53_8 : decode cJ0_indexOf_7cf53 8 = .ok (.getfield 9, 3) := by decide +kernel
theorem dJ0_indexOf_7cf53_11 : decode cJ0_indexOf_7cf53 11 = .ok (.iload_n 1, 1) := by decide +kernel
theorem dJ0_indexOf_7cf53_12 : decode cJ0_indexOf_7cf53 12 = .ok (.iload_n 2, 1) := by decide +kernel
theorem dJ0_indexOf_7cf53_13 : decode cJ0_indexOf_7cf53 13 = .ok (.aload_n 0, 1) := by decide +kernel
theorem dJ0_indexOf_7cf53_14 : decode cJ0_indexOf_7cf53 14 = .ok (.invokevirtual 505, 3) := by decide +kernel
theorem dJ0_indexOf_7cf53_17 : decode cJ0_indexOf_7cf53 17 = .ok (.invokestatic 637, 3) := by decide +kernel
theorem dJ0_indexOf_7cf53_20 : decode cJ0_indexOf_7cf53 20 = .ok (.goto 16, 3) := by decide +kernel
theorem dJ0_indexOf_7cf53_23 : decode cJ0_indexOf_7cf53 23 = .ok (.aload_n 0, 1) := by decide +kernel
theorem dJ0_indexOf_7cf53_24 : decode cJ0_indexOf_7cf53 24 = .ok (.getfield 9, 3) := by decide +kernel
theorem dJ0_indexOf_7cf53_27 : decode cJ0_indexOf_7cf53 27 = .ok (.iload_n 1, 1) := by decide +kernel
theorem dJ0_indexOf_7cf53_28 : decode cJ0_indexOf_7cf53 28 = .ok (.iload_n 2, 1) := by decide +kernel
theorem dJ0_indexOf_7cf53_29 : decode cJ0_indexOf_7cf53 29 = .ok (.aload_n 0, 1) := by decide +kernel
theorem dJ0_indexOf_7cf53_30 : decode cJ0_indexOf_7cf53 30 = .ok (.invokevirtual 505, 3) := by decide +kernel
theorem dJ0_indexOf_7cf53_33 : decode cJ0_indexOf_7cf53 33 = .ok (.invokestatic 640, 3) := by decide +kernel
theorem dJ0_indexOf_7cf53_36 : decode cJ0_indexOf_7cf53 36 = .ok (.ireturn, 1) := by decide +kernel
theorem dJ0_coder_7d493_0 : decode cJ0_coder_7d493 0 = .ok (.getstatic 38, 3) := by decide +kernel
theorem dJ0_coder_7d493_3 : decode cJ0_coder_7d493 3 = .ok (.ifCond .eq 10, 3) := by decide +kernel
theorem dJ0_coder_7d493_6 : decode cJ0_coder_7d493 6 = .ok (.aload_n 0, 1) := by decide +kernel
theorem dJ0_coder_7d493_7 : decode cJ0_coder_7d493 7 = .ok (.getfield 15, 3) := by decide +kernel
theorem dJ0_coder_7d493_10 : decode cJ0_coder_7d493 10 = .ok (.goto 4, 3) := by decide +kernel
theorem dJ0_coder_7d493_13 : decode cJ0_coder_7d493 13 = .ok (.iconst 1, 1) := by decide +kernel
theorem dJ0_coder_7d493_14 : decode cJ0_coder_7d493 14 = .ok (.ireturn, 1) := by decide +kernel
theorem dJ0_isLatin1_aae02_0 : decode cJ0_isLatin1_aae02 0 = .ok (.getstatic 38, 3) := by decide +kernel
theorem dJ0_isLatin1_aae02_3 : decode cJ0_isLatin1_aae02 3 = .ok (.ifCond .eq 14, 3) := by decide +kernel
theorem dJ0_isLatin1_aae02_6 : decode cJ0_isLatin1_aae02 6 = .ok (.aload_n 0, 1) := by decide +kernel
theorem dJ0_isLatin1_aae02_7 : decode cJ0_isLatin1_aae02 7 = .ok (.getfield 15, 3) := by decide +kernel
theorem dJ0_isLatin1_aae02_10 : decode cJ0_isLatin1_aae02 10 = .ok (.ifCond .ne 7, 3) := by decide +kernel
theorem dJ0_isLatin1_aae02_13 : decode cJ0_isLatin1_aae02 13 = .ok (.iconst 1, 1) := by decide +kernel
theorem dJ0_isLatin1_aae02_14 : decode cJ0_isLatin1_aae02 14 = .ok (.goto 4, 3) := by decide +kernel
theorem dJ0_isLatin1_aae02_17 : decode cJ0_isLatin1_aae02 17 = .ok (.iconst 0, 1) := by decide +kernel
theorem dJ0_isLatin1_aae02_18 : decode cJ0_isLatin1_aae02 18 = .ok (.ireturn, 1) := by decide +kernel
set_option maxRecDepth 20000 in
theorem ggJ0_checkBoundsBeginEnd_23922_J3_checkFromToIndex_8c36e : GoodIn wsJ0_checkBoundsBeginEnd_23922 wsJ3_checkFromToIndex_8c36e := goodIn_r _ [5] (by decide +kernel) (by decide +kernel)
set_option maxRecDepth 20000 in
theorem gJ0_checkBoundsBeginEnd_23922_J3_checkFromToIndex_8c36e : GoodIn wsJ0_checkBoundsBeginEnd_23922 (va_wsS RJ0 1062 yJ3_checkFromToIndex_8c36e wsJ3_checkFromToIndex_8c36e) := goodIn_app (goodIn_of _ (by decide +kernel)) ggJ0_checkBoundsBeginEnd_23922_J3_checkFromToIndex_8c36e
theorem dJ0_checkBoundsBeginEnd_23922_0 : decode cJ0_checkBoundsBeginEnd_23922 0 = .ok (.iload_n 0, 1) := by decide +kernel
theorem dJ0_checkBoundsBeginEnd_23922_1 : decode cJ0_checkBoundsBeginEnd_23922 1 = .ok (.iload_n 1, 1) := by decide +kernel
theorem dJ0_checkBoundsBeginEnd_23922_2 : decode cJ0_checkBoundsBeginEnd_23922 2 = .ok (.iload_n 2, 1) := by decide +kernel
theorem dJ0_checkBoundsBeginEnd_23922_3 : decode cJ0_checkBoundsBeginEnd_23922 3 = .ok (.getstatic 1053, 3) := by decide +kernel
theorem dJ0_checkBoundsBeginEnd_23922_6 : decode cJ0_checkBoundsBeginEnd_23922 6 = .ok (.invokestatic 1062, 3) := by decide +kernel
theorem dJ0_checkBoundsBeginEnd_23922_9 : decode cJ0_checkBoundsBeginEnd_23922 9 = .ok (.pop, 1) := by decide +kernel
theorem dJ0_checkBoundsBeginEnd_23922_10 : decode cJ0_checkBoundsBeginEnd_23922 10 = .ok (.return_, 1) := by decide +kernel
theorem dJ1_canEncode_9a6ad_0 : decode cJ1_canEncode_9a6ad 0 = .ok (.iload_n 0, 1) := by decide +kernel
theorem dJ1_canEncode_9a6ad_1 : decode cJ1_canEncode_9a6ad 1 = .ok (.ifCond .lt 14, 3) := by decide +kernel
theorem dJ1_canEncode_9a6ad_4 : decode cJ1_canEncode_9a6ad 4 = .ok (.iload_n 0, 1) := by decide +kernel
theorem dJ1_canEncode_9a6ad_5 : decode cJ1_canEncode_9a6ad 5 = .ok (.sipush 255, 3) := by decide +kernel
theorem dJ1_canEncode_9a6ad_8 : decode cJ1_canEncode_9a6ad 8 = .ok (.if_icmp .gt 7, 3) := by decide +kernel
theorem dJ1_canEncode_9a6ad_11 : decode cJ1_canEncode_9a6ad 11 = .ok (.iconst 1, 1) := by decide +kernel
theorem dJ1_canEncode_9a6ad_12 : decode cJ1_canEncode_9a6ad 12 = .ok (.goto 4, 3) := by decide +kernel
theorem dJ1_canEncode_9a6ad_15 : decode cJ1_canEncode_9a6ad 15 = .ok (.iconst 0, 1) := by decide +kernel
theorem dJ1_canEncode_9a6ad_16 : decode cJ1_canEncode_9a6ad 16 = .ok (.ireturn, 1) := by decide +kernel
set_option maxRecDepth 20000 in
theorem ggJ1_indexOf_4cfef_J1_canEncode_9a6ad : GoodIn wsJ1_indexOf_4cfef wsJ1_canEncode_9a6ad := goodIn_r _ [11] (by decide +kernel) (by decide +kernel)
set_option maxRecDepth 20000 in
theorem gJ1_indexOf_4cfef_J1_canEncode_9a6ad : GoodIn wsJ1_indexOf_4cfef (va_wsS RJ1 88 yJ1_canEncode_9a6ad wsJ1_canEncode_9a6ad) := goodIn_app (goodIn_of _ (by decide +kernel)) ggJ1_indexOf_4cfef_J1_canEncode_9a6ad
set_option maxRecDepth 20000 in
theorem ggJ1_indexOf_4cfef_J1_indexOfChar_4cfef : GoodIn wsJ1_indexOf_4cfef wsJ1_indexOfChar_4cfef := goodIn_r _ [14] (by decide +kernel) (by decide +kernel)
set_option maxRecDepth 20000 in
theorem gJ1_indexOf_4cfef_J1_indexOfChar_4cfef : GoodIn wsJ1_indexOf_4cfef (va_wsS RJ1 95 yJ1_indexOfChar_4cfef wsJ1_indexOfChar_4cfef) := goodIn_app (goodIn_of _ (by decide +kernel)) ggJ1_indexOf_4cfef_J1_indexOfChar_4cfef
theorem dJ1_indexOf_4cfef_0 : decode cJ1_indexOf_4cfef 0 = .ok (.iload_n 1, 1) := by decide +kernel
theorem dJ1_indexOf_4cfef_1 : decode cJ1_indexOf_4cfef 1 = .ok (.invokestatic 88, 3) := by decide +kernel
theorem dJ1_indexOf_4cfef_4 : decode cJ1_indexOf_4cfef 4 = .ok (.ifCond .ne 5, 3) := by decide +kernel
theorem dJ1_indexOf_4cfef_7 : decode cJ1_indexOf_4cfef 7 = .ok (.iconst (-1), 1) := by decide +kernel
theorem dJ1_indexOf_4cfef_8 : decode cJ1_indexOf_4cfef 8 = .ok (.ireturn, 1) := by decide +kernel
theorem dJ1_indexOf_4cfef_9 : decode cJ1_indexOf_4cfef 9 = .ok (.iload_n 2, 1) := by decide +kernel
theorem dJ1_indexOf_4cfef_10 : decode cJ1_indexOf_4cfef 10 = .ok (.iconst 0, 1) := by decide +kernel
theorem dJ1_indexOf_4cfef_11 : decode cJ1_indexOf_4cfef 11 = .ok (.invokestatic 92, 3) := by decide +kernel
theorem dJ1_indexOf_4cfef_14 : decode cJ1_indexOf_4cfef 14 = .ok (.istore_n 2, 1) := by decide +kernel
theorem dJ1_indexOf_4cfef_15 : decode cJ1_indexOf_4cfef 15 = .ok (.iload_n 3, 1) := by decide +kernel
theorem dJ1_indexOf_4cfef_16 : decode cJ1_indexOf_4cfef 16 = .ok (.aload_n 0, 1) := by decide +kernel
theorem dJ1_indexOf_4cfef_17 : decode cJ1_indexOf_4cfef 17 = .ok (.arraylength, 1) := by decide +kernel
theorem dJ1_indexOf_4cfef_18 : decode cJ1_indexOf_4cfef 18 = .ok (.invokestatic 38, 3) := by decide +kernel
theorem dJ1_indexOf_4cfef_21 : decode cJ1_indexOf_4cfef 21 = .ok (.istore_n 3, 1) := by decide +kernel
theorem dJ1_indexOf_4cfef_22 : decode cJ1_indexOf_4cfef 22 = .ok (.iload_n 2, 1) := by decide +kernel
theorem dJ1_indexOf_4cfef_23 : decode cJ1_indexOf_4cfef 23 = .ok (.iload_n 3, 1) := by decide +kernel
theorem dJ1_indexOf_4cfef_24 : decode cJ1_indexOf_4cfef 24 = .ok (.if_icmp .lt 5, 3) := by decide +kernel
theorem dJ1_indexOf_4cfef_27 : decode cJ1_indexOf_4cfef 27 = .ok (.iconst (-1), 1) := by decide +kernel
theorem dJ1_indexOf_4cfef_28 : decode cJ1_indexOf_4cfef 28 = .ok (.ireturn, 1) := by decide +kernel
theorem dJ1_indexOf_4cfef_29 : decode cJ1_indexOf_4cfef 29 = .ok (.aload_n 0, 1) := by decide +kernel
theorem dJ1_indexOf_4cfef_30 : decode cJ1_indexOf_4cfef 30 = .ok (.iload_n 1, 1) := by decide +kernel
theorem dJ1_indexOf_4cfef_31 : decode cJ1_indexOf_4cfef 31 = .ok (.iload_n 2, 1) := by decide +kernel
theorem dJ1_indexOf_4cfef_32 : decode cJ1_indexOf_4cfef 32 = .ok (.iload_n 3, 1) := by decide +kernel
theorem dJ1_indexOf_4cfef_33 : decode cJ1_indexOf_4cfef 33 = .ok (.invokestatic 95, 3) := by decide +kernel
theorem dJ1_indexOf_4cfef_36 : decode cJ1_indexOf_4cfef 36 = .ok (.ireturn, 1) := by decide +kernel
theorem dJ1_indexOfChar_4cfef_0 : decode cJ1_indexOfChar_4cfef 0 = .ok (.iload_n 1, 1) := by decide +kernel
theorem dJ1_indexOfChar_4cfef_1 : decode cJ1_indexOfChar_4cfef 1 = .ok (.i2b, 1) := by decide +kernel
theorem dJ1_indexOfChar_4cfef_2 : decode cJ1_indexOfChar_4cfef 2 = .ok (.istore 4, 2) := by decide +kernel
theorem dJ1_indexOfChar_4cfef_4 : decode cJ1_indexOfChar_4cfef 4 = .ok (.iload_n 2, 1) := by decide +kernel
theorem dJ1_indexOfChar_4cfef_5 : decode cJ1_indexOfChar_4cfef 5 = .ok (.istore 5, 2) := by decide +kernel
theorem dJ1_indexOfChar_4cfef_7 : decode cJ1_indexOfChar_4cfef 7 = .ok (.iload 5, 2) := by decide +kernel
theorem dJ1_indexOfChar_4cfef_9 : decode cJ1_indexOfChar_4cfef 9 = .ok (.iload_n 3, 1) := by decide +kernel
theorem dJ1_indexOfChar_4cfef_10 : decode cJ1_indexOfChar_4cfef 10 = .ok (.if_icmp .ge 21, 3) := by decide +kernel
theorem dJ1_indexOfChar_4cfef_13 : decode cJ1_indexOfChar_4cfef 13 = .ok (.aload_n 0, 1) := by decide +kernel
theorem dJ1_indexOfChar_4cfef_14 : decode cJ1_indexOfChar_4cfef 14 = .ok (.iload 5, 2) := by decide +kernel
theorem dJ1_indexOfChar_4cfef_16 : decode cJ1_indexOfChar_4cfef 16 = .ok (.baload, 1) := by decide +kernel
theorem dJ1_indexOfChar_4cfef_17 : decode cJ1_indexOfChar_4cfef 17 = .ok (.iload 4, 2) := by decide +kernel
theorem dJ1_indexOfChar_4cfef_19 : decode cJ1_indexOfChar_4cfef 19 = .ok (.if_icmp .ne 6, 3) := by decide +kernel
theorem dJ1_indexOfChar_4cfef_22 : decode cJ1_indexOfChar_4cfef 22 = .ok (.iload 5, 2) := by decide +kernel
theorem dJ1_indexOfChar_4cfef_24 : decode cJ1_indexOfChar_4cfef 24 = .ok (.ireturn, 1) := by decide +kernel
theorem dJ1_indexOfChar_4cfef_25 : decode cJ1_indexOfChar_4cfef 25 = .ok (.iinc 5 1, 3) := by decide +kernel
theorem dJ1_indexOfChar_4cfef_28 : decode cJ1_indexOfChar_4cfef 28 = .ok (.goto (-21), 3) := by decide +kernel
theorem dJ1_indexOfChar_4cfef_31 : decode cJ1_indexOfChar_4cfef 31 = .ok (.iconst (-1), 1) := by decide +kernel
theorem dJ1_indexOfChar_4cfef_32 : decode cJ1_indexOfChar_4cfef 32 = .ok (.ireturn, 1) := by decide +kernel
set_option maxRecDepth 20000 in
theorem ggJ2_getChar_3b067_J2_length_9d52b : GoodIn wsJ2_getChar_3b067 wsJ2_length_9d52b := goodIn_r _ [7] (by decide +kernel) (by decide +kernel)
set_option maxRecDepth 20000 in
theorem gJ2_getChar_3b067_J2_length_9d52b : GoodIn wsJ2_getChar_3b067 (va_wsS RJ2 48 yJ2_length_9d52b wsJ2_length_9d52b) := goodIn_app (goodIn_of _ (by decide +kernel)) ggJ2_getChar_3b067_J2_length_9d52b
theorem dJ2_getChar_3b067_0 : decode cJ2_getChar_3b067 0 = .ok (.getstatic 44, 3) := by decide +kernel
theorem dJ2_getChar_3b067_3 : decode cJ2_getChar_3b067 3 = .ok (.ifCond .ne 25, 3) := by decide +kernel
theorem dJ2_getChar_3b067_6 : decode cJ2_getChar_3b067 6 = .ok (.iload_n 1, 1) := by decide +kernel
theorem dJ2_getChar_3b067_7 : decode cJ2_getChar_3b067 7 = .ok (.ifCond .lt 11, 3) := by decide +kernel
theorem dJ2_getChar_3b067_10 : decode cJ2_getChar_3b067 10 = .ok (.iload_n 1, 1) := by decide +kernel
theorem dJ2_getChar_3b067_11 : decode cJ2_getChar_3b067 11 = .ok (.aload_n 0, 1) := by decide +kernel
theorem dJ2_getChar_3b067_12 : decode cJ2_getChar_3b067 12 = .ok (.invokestatic 48, 3) := by decide +kernel
theorem dJ2_getChar_3b067_15 : decode cJ2_getChar_3b067 15 = .ok (.if_icmp .lt 13, 3) := by decide +kernel
theorem dJ2_getChar_3b067_18 : decode cJ2_getChar_3b067 18 = .ok (.new 52, 3) := by decide +kernel
theorem dJ2_getChar_3b067_21 : decode cJ2_getChar_3b067 21 = .ok (.dup, 1) := by decide +kernel
theorem dJ2_getChar_3b067_22 : decode cJ2_getChar_3b067 22 = .ok (.ldc 54, 2) := by decide +kernel
theorem dJ2_getChar_3b067_24 : decode cJ2_getChar_3b067 24 = .ok (.invokespecial 56, 3) := by decide +kernel
theorem dJ2_getChar_3b067_27 : decode cJ2_getChar_3b067 27 = .ok (.athrow, 1) := by decide +kernel
theorem dJ2_getChar_3b067_28 : decode cJ2_getChar_3b067 28 = .ok (.iload_n 1, 1) := by decide +kernel
theorem dJ2_getChar_3b067_29 : decode cJ2_getChar_3b067 29 = .ok (.iconst 1, 1) := by decide +kernel
theorem dJ2_getChar_3b067_30 : decode cJ2_getChar_3b067 30 = .ok (.ishl, 1) := by decide +kernel
theorem dJ2_getChar_3b067_31 : decode cJ2_getChar_3b067 31 = .ok (.istore_n 1, 1) := by decide +kernel
theorem dJ2_getChar_3b067_32 : decode cJ2_getChar_3b067 32 = .ok (.aload_n 0, 1) := by decide +kernel
theorem dJ2_getChar_3b067_33 : decode cJ2_getChar_3b067 33 = .ok (.iload_n 1, 1) := by decide +kernel
theorem dJ2_getChar_3b067_34 : decode cJ2_getChar_3b067 34 = .ok (.iinc 1 1, 3) := by decide +kernel
theorem dJ2_getChar_3b067_37 : decode cJ2_getChar_3b067 37 = .ok (.baload, 1) := by decide +kernel
theorem dJ2_getChar_3b067_38 : decode cJ2_getChar_3b067 38 = .ok (.sipush 255, 3) := by decide +kernel
theorem dJ2_getChar_3b067_41 : decode cJ2_getChar_3b067 41 = .ok (.iand, 1) := by decide +kernel
theorem dJ2_getChar_3b067_42 : decode cJ2_getChar_3b067 42 = .ok (.getstatic 59, 3) := by decide +kernel
theorem dJ2_getChar_3b067_45 : decode cJ2_getChar_3b067 45 = .ok (.ishl, 1) := by decide +kernel
theorem dJ2_getChar_3b067_46 : decode cJ2_getChar_3b067 46 = .ok (.aload_n 0, 1) := by decide +kernel
theorem dJ2_getChar_3b067_47 : decode cJ2_getChar_3b067 47 = .ok (.iload_n 1, 1) := by decide +kernel
theorem dJ2_getChar_3b067_48 : decode cJ2_getChar_3b067 48 = .ok (.baload, 1) := by decide +kernel
theorem dJ2_getChar_3b067_49 : decode cJ2_getChar_3b067 49 = .ok (.sipush 255, 3) := by decide +kernel
theorem dJ2_getChar_3b067_52 : decode cJ2_getChar_3b067 52 = .ok (.iand, 1) := by decide +kernel
theorem dJ2_getChar_3b067_53 : decode cJ2_getChar_3b067 53 = .ok (.getstatic 63, 3) := by decide +kernel
theorem dJ2_getChar_3b067_56 : decode cJ2_getChar_3b067 56 = .ok (.ishl, 1) := by decide +kernel
theorem dJ2_getChar_3b067_57 : decode cJ2_getChar_3b067 57 = .ok (.ior, 1) := by decide +kernel
theorem dJ2_getChar_3b067_58 : decode cJ2_getChar_3b067 58 = .ok (.i2c, 1) := by decide +kernel
theorem dJ2_getChar_3b067_59 : decode cJ2_getChar_3b067 59 = .ok (.ireturn, 1) := by decide +kernel
theorem dJ2_length_9d52b_0 : decode cJ2_length_9d52b 0 = .ok (.aload_n 0, 1) := by decide +kernel
theorem dJ2_length_9d52b_1 : decode cJ2_length_9d52b 1 = .ok (.arraylength, 1) := by decide +kernel
theorem dJ2_length_9d52b_2 : decode cJ2_length_9d52b 2 = .ok (.iconst 1, 1) := by decide +kernel
theorem dJ2_length_9d52b_3 : decode cJ2_length_9d52b 3 = .ok (.ishr, 1) := by decide +kernel
theorem dJ2_length_9d52b_4 : decode cJ2_length_9d52b 4 = .ok (.ireturn, 1) := by decide +kernel
set_option maxRecDepth 20000 in
theorem ggJ2_indexOf_4cfef_J2_indexOfChar_4cfef : GoodIn wsJ2_indexOf_4cfef wsJ2_indexOfChar_4cfef := goodIn_r _ [12, 13, 14, 11, 15, 16, 17, 18, 19, 20, 21, 22, 23, 24, 25, 26, 27, 28, 29, 30, 31, 32, 33, 34, 35, 36] (by decide +kernel) (by decide +kernel)
set_option maxRecDepth 20000 in
theorem gJ2_indexOf_4cfef_J2_indexOfChar_4cfef : GoodIn wsJ2_indexOf_4cfef (va_wsS RJ2 228 yJ2_indexOfChar_4cfef wsJ2_indexOfChar_4cfef) := goodIn_app (goodIn_of _ (by decide +kernel)) ggJ2_indexOf_4cfef_J2_indexOfChar_4cfef
set_option maxRecDepth 20000 in
theorem ggJ2_indexOf_4cfef_J2_indexOfSupplementary_4cfef : GoodIn wsJ2_indexOf_4cfef wsJ2_indexOfSupplementary_4cfef := goodIn_r _ [39, 40, 41, 42, 43, 44, 45, 46, 47, 48, 49, 50, 51, 13, 14, 11, 15, 16, 17, 18, 19, 20, 21, 22, 23, 24, 25, 26, 27, 31, 32, 33, 34, 35, 36] (by decide +kernel) (by decide +kernel)
set_option maxRecDepth 20000 in
theorem gJ2_indexOf_4cfef_J2_indexOfSupplementary_4cfef : GoodIn wsJ2_indexOf_4cfef (va_wsS RJ2 232 yJ2_indexOfSupplementary_4cfef wsJ2_indexOfSupplementary_4cfef) := goodIn_app (goodIn_of _ (by decide +kernel)) ggJ2_indexOf_4cfef_J2_indexOfSupplementary_4cfef
theorem dJ2_indexOf_4cfef_0 : decode cJ2_indexOf_4cfef 0 = .ok (.iload_n 2, 1) := by decide +kernel
theorem dJ2_indexOf_4cfef_1 : decode cJ2_indexOf_4cfef 1 = .ok (.iconst 0, 1) := by decide +kernel
theorem dJ2_indexOf_4cfef_2 : decode cJ2_indexOf_4cfef 2 = .ok (.invokestatic 224, 3) := by decide +kernel
theorem dJ2_indexOf_4cfef_5 : decode cJ2_indexOf_4cfef 5 = .ok (.istore_n 2, 1) := by decide +kernel
theorem dJ2_indexOf_4cfef_6 : decode cJ2_indexOf_4cfef 6 = .ok (.iload_n 3, 1) := by decide +kernel
theorem dJ2_indexOf_4cfef_7 : decode cJ2_indexOf_4cfef 7 = .ok (.aload_n 0, 1) := by decide +kernel
theorem dJ2_indexOf_4cfef_8 : decode cJ2_indexOf_4cfef 8 = .ok (.arraylength, 1) := by decide +kernel
theorem dJ2_indexOf_4cfef_9 : decode cJ2_indexOf_4cfef 9 = .ok (.iconst 1, 1) := by decide +kernel
theorem dJ2_indexOf_4cfef_10 : decode cJ2_indexOf_4cfef 10 = .ok (.ishr, 1) := by decide +kernel
theorem dJ2_indexOf_4cfef_11 : decode cJ2_indexOf_4cfef 11 = .ok (.invokestatic 183, 3) := by decide +kernel
theorem dJ2_indexOf_4cfef_14 : decode cJ2_indexOf_4cfef 14 = .ok (.istore_n 3, 1) := by decide +kernel
theorem dJ2_indexOf_4cfef_15 : decode cJ2_indexOf_4cfef 15 = .ok (.iload_n 2, 1) := by decide +kernel
theorem dJ2_indexOf_4cfef_16 : decode cJ2_indexOf_4cfef 16 = .ok (.iload_n 3, 1) := by decide +kernel
theorem dJ2_indexOf_4cfef_17 : decode cJ2_indexOf_4cfef 17 = .ok (.if_icmp .lt 5, 3) := by decide +kernel
theorem dJ2_indexOf_4cfef_20 : decode cJ2_indexOf_4cfef 20 = .ok (.iconst (-1), 1) := by decide +kernel
theorem dJ2_indexOf_4cfef_21 : decode cJ2_indexOf_4cfef 21 = .ok (.ireturn, 1) := by decide +kernel
theorem dJ2_indexOf_4cfef_22 : decode cJ2_indexOf_4cfef 22 = .ok (.iload_n 1, 1) := by decide +kernel
theorem dJ2_indexOf_4cfef_23 : decode cJ2_indexOf_4cfef 23 = .ok (.ldc 227, 2) := by decide +kernel
theorem dJ2_indexOf_4cfef_25 : decode cJ2_indexOf_4cfef 25 = .ok (.if_icmp .ge 11, 3) := by decide +kernel
theorem dJ2_indexOf_4cfef_28 : decode cJ2_indexOf_4cfef 28 = .ok (.aload_n 0, 1) := by decide +kernel
theorem dJ2_indexOf_4cfef_29 : decode cJ2_indexOf_4cfef 29 = .ok (.iload_n 1, 1) := by decide +kernel
theorem dJ2_indexOf_4cfef_30 : decode cJ2_indexOf_4cfef 30 = .ok (.iload_n 2, 1) := by decide +kernel
theorem dJ2_indexOf_4cfef_31 : decode cJ2_indexOf_4cfef 31 = .ok (.iload_n 3, 1) := by decide +kernel
theorem dJ2_indexOf_4cfef_32 : decode cJ2_indexOf_4cfef 32 = .ok (.invokestatic 228, 3) := by decide +kernel
theorem dJ2_indexOf_4cfef_35 : decode cJ2_indexOf_4cfef 35 = .ok (.ireturn, 1) := by decide +kernel
theorem dJ2_indexOf_4cfef_36 : decode cJ2_indexOf_4cfef 36 = .ok (.aload_n 0, 1) := by decide +kernel
theorem dJ2_indexOf_4cfef_37 : decode cJ2_indexOf_4cfef 37 = .ok (.iload_n 1, 1) := by decide +kernel
theorem dJ2_indexOf_4cfef_38 : decode cJ2_indexOf_4cfef 38 = .ok (.iload_n 2, 1) := by decide +kernel
theorem dJ2_indexOf_4cfef_39 : decode cJ2_indexOf_4cfef 39 = .ok (.iload_n 3, 1) := by decide +kernel
theorem dJ2_indexOf_4cfef_40 : decode cJ2_indexOf_4cfef 40 = .ok (.invokestatic 232, 3) := by decide +kernel
theorem dJ2_indexOf_4cfef_43 : decode cJ2_indexOf_4cfef 43 = .ok (.ireturn, 1) := by decide +kernel
set_option maxRecDepth 20000 in
theorem ggJ2_indexOfChar_4cfef_J2_checkBoundsBeginEnd_d044e : GoodIn wsJ2_indexOfChar_4cfef wsJ2_checkBoundsBeginEnd_d044e := goodIn_r _ [4, 5, 6, 3, 7, 8, 9, 10, 11, 12, 13, 14, 15, 16] (by decide +kernel) (by decide +kernel)
set_option maxRecDepth 20000 in
theorem gJ2_indexOfChar_4cfef_J2_checkBoundsBeginEnd_d044e : GoodIn wsJ2_indexOfChar_4cfef (va_wsS RJ2 96 yJ2_checkBoundsBeginEnd_d044e wsJ2_checkBoundsBeginEnd_d044e) := goodIn_app (goodIn_of _ (by decide +kernel)) ggJ2_indexOfChar_4cfef_J2_checkBoundsBeginEnd_d044e
set_option maxRecDepth 20000 in
theorem ggJ2_indexOfChar_4cfef_J2_indexOfCharUnsafe_4cfef : GoodIn wsJ2_indexOfChar_4cfef wsJ2_indexOfCharUnsafe_4cfef := goodIn_r _ [19, 20, 21, 3, 22, 23, 24, 25, 5, 6, 7] (by decide +kernel) (by decide +kernel)
set_option maxRecDepth 20000 in
theorem gJ2_indexOfChar_4cfef_J2_indexOfCharUnsafe_4cfef : GoodIn wsJ2_indexOfChar_4cfef (va_wsS RJ2 244 yJ2_indexOfCharUnsafe_4cfef wsJ2_indexOfCharUnsafe_4cfef) := goodIn_app (goodIn_of _ (by decide +kernel)) ggJ2_indexOfChar_4cfef_J2_indexOfCharUnsafe_4cfef
theorem dJ2_indexOfChar_4cfef_0 : decode cJ2_indexOfChar_4cfef 0 = .ok (.iload_n 2, 1) := by decide +kernel
theorem dJ2_indexOfChar_4cfef_1 : decode cJ2_indexOfChar_4cfef 1 = .ok (.iload_n 3, 1) := by decide +kernel
theorem dJ2_indexOfChar_4cfef_2 : decode cJ2_indexOfChar_4cfef 2 = .ok (.aload_n 0, 1) := by decide +kernel
theorem dJ2_indexOfChar_4cfef_3 : decode cJ2_indexOfChar_4cfef 3 = .ok (.invokestatic 96, 3) := by decide +kernel
theorem dJ2_indexOfChar_4cfef_6 : decode cJ2_indexOfChar_4cfef 6 = .ok (.aload_n 0, 1) := by decide +kernel
theorem dJ2_indexOfChar_4cfef_7 : decode cJ2_indexOfChar_4cfef 7 = .ok (.iload_n 1, 1) := by decide +kernel
theorem dJ2_indexOfChar_4cfef_8 : decode cJ2_indexOfChar_4cfef 8 = .ok (.iload_n 2, 1) := by decide +kernel
theorem dJ2_indexOfChar_4cfef_9 : decode cJ2_indexOfChar_4cfef 9 = .ok (.iload_n 3, 1) := by decide +kernel
theorem dJ2_indexOfChar_4cfef_10 : decode cJ2_indexOfChar_4cfef 10 = .ok (.invokestatic 244, 3) := by decide +kernel
theorem dJ2_indexOfChar_4cfef_13 : decode cJ2_indexOfChar_4cfef 13 = .ok (.ireturn, 1) := by decide +kernel
set_option maxRecDepth 20000 in
theorem ggJ2_indexOfCharUnsafe_4cfef_J2_getChar_3b067 : GoodIn wsJ2_indexOfCharUnsafe_4cfef wsJ2_getChar_3b067 := goodIn_r _ [4, 5, 6, 7, 8, 9, 3, 10] (by decide +kernel) (by decide +kernel)
set_option maxRecDepth 20000 in
theorem gJ2_indexOfCharUnsafe_4cfef_J2_getChar_3b067 : GoodIn wsJ2_indexOfCharUnsafe_4cfef (va_wsS RJ2 71 yJ2_getChar_3b067 wsJ2_getChar_3b067) := goodIn_app (goodIn_of _ (by decide +kernel)) ggJ2_indexOfCharUnsafe_4cfef_J2_getChar_3b067
theorem dJ2_indexOfCharUnsafe_4cfef_0 : decode cJ2_indexOfCharUnsafe_4cfef 0 = .ok (.iload_n 2, 1) := by decide +kernel
theorem dJ2_indexOfCharUnsafe_4cfef_1 : decode cJ2_indexOfCharUnsafe_4cfef 1 = .ok (.istore 4, 2) := by decide +kernel
theorem dJ2_indexOfCharUnsafe_4cfef_3 : decode cJ2_indexOfCharUnsafe_4cfef 3 = .ok (.iload 4, 2) := by decide +kernel
theorem dJ2_indexOfCharUnsafe_4cfef_5 : decode cJ2_indexOfCharUnsafe_4cfef 5 = .ok (.iload_n 3, 1) := by decide +kernel
theorem dJ2_indexOfCharUnsafe_4cfef_6 : decode cJ2_indexOfCharUnsafe_4cfef 6 = .ok (.if_icmp .ge 22, 3) := by decide +kernel
theorem dJ2_indexOfCharUnsafe_4cfef_9 : decode cJ2_indexOfCharUnsafe_4cfef 9 = .ok (.aload_n 0, 1) := by decide +kernel
theorem dJ2_indexOfCharUnsafe_4cfef_10 : decode cJ2_indexOfCharUnsafe_4cfef 10 = .ok (.iload 4, 2) := by decide +kernel
theorem dJ2_indexOfCharUnsafe_4cfef_12 : decode cJ2_indexOfCharUnsafe_4cfef 12 = .ok (.invokestatic 71, 3) := by decide +kernel
theorem dJ2_indexOfCharUnsafe_4cfef_15 : decode cJ2_indexOfCharUnsafe_4cfef 15 = .ok (.iload_n 1, 1) := by decide +kernel
theorem dJ2_indexOfCharUnsafe_4cfef_16 : decode cJ2_indexOfCharUnsafe_4cfef 16 = .ok (.if_icmp .ne 6, 3) := by decide +kernel
theorem dJ2_indexOfCharUnsafe_4cfef_19 : decode cJ2_indexOfCharUnsafe_4cfef 19 = .ok (.iload 4, 2) := by decide +kernel
theorem dJ2_indexOfCharUnsafe_4cfef_21 : decode cJ2_indexOfCharUnsafe_4cfef 21 = .ok (.ireturn, 1) := by decide +kernel
theorem dJ2_indexOfCharUnsafe_4cfef_22 : decode cJ2_indexOfCharUnsafe_4cfef 22 = .ok (.iinc 4 1, 3) := by decide +kernel
theorem dJ2_indexOfCharUnsafe_4cfef_25 : decode cJ2_indexOfCharUnsafe_4cfef 25 = .ok (.goto (-22), 3) := by decide +kernel
theorem dJ2_indexOfCharUnsafe_4cfef_28 : decode cJ2_indexOfCharUnsafe_4cfef 28 = .ok (.iconst (-1), 1) := by decide +kernel
theorem dJ2_indexOfCharUnsafe_4cfef_29 : decode cJ2_indexOfCharUnsafe_4cfef 29 = .ok (.ireturn, 1) := by decide +kernel
set_option maxRecDepth 20000 in
theorem ggJ2_indexOfSupplementary_4cfef_J11_isValidCodePoint_9a6ad : GoodIn wsJ2_indexOfSupplementary_4cfef wsJ11_isValidCodePoint_9a6ad := goodIn_r _ [4] (by decide +kernel) (by decide +kernel)
set_option maxRecDepth 20000 in
theorem gJ2_indexOfSupplementary_4cfef_J11_isValidCodePoint_9a6ad : GoodIn wsJ2_indexOfSupplementary_4cfef (va_wsS RJ2 164 yJ11_isValidCodePoint_9a6ad wsJ11_isValidCodePoint_9a6ad) := goodIn_app (goodIn_of _ (by decide +kernel)) ggJ2_indexOfSupplementary_4cfef_J11_isValidCodePoint_9a6ad
set_option maxRecDepth 20000 in
theorem ggJ2_indexOfSupplementary_4cfef_J11_highSurrogate_5068e : GoodIn wsJ2_indexOfSupplementary_4cfef wsJ11_highSurrogate_5068e := goodIn_r _ [7, 8] (by decide +kernel) (by decide +kernel)
set_option maxRecDepth 20000 in
theorem gJ2_indexOfSupplementary_4cfef_J11_highSurrogate_5068e : GoodIn wsJ2_indexOfSupplementary_4cfef (va_wsS RJ2 157 yJ11_highSurrogate_5068e wsJ11_highSurrogate_5068e) := goodIn_app (goodIn_of _ (by decide +kernel)) ggJ2_indexOfSupplementary_4cfef_J11_highSurrogate_5068e
set_option maxRecDepth 20000 in
theorem ggJ2_indexOfSupplementary_4cfef_J11_lowSurrogate_5068e : GoodIn wsJ2_indexOfSupplementary_4cfef wsJ11_lowSurrogate_5068e := goodIn_r _ [11, 12] (by decide +kernel) (by decide +kernel)
set_option maxRecDepth 20000 in
theorem gJ2_indexOfSupplementary_4cfef_J11_lowSurrogate_5068e : GoodIn wsJ2_indexOfSupplementary_4cfef (va_wsS RJ2 161 yJ11_lowSurrogate_5068e wsJ11_lowSurrogate_5068e) := goodIn_app (goodIn_of _ (by decide +kernel)) ggJ2_indexOfSupplementary_4cfef_J11_lowSurrogate_5068e
set_option maxRecDepth 20000 in
theorem ggJ2_indexOfSupplementary_4cfef_J2_checkBoundsBeginEnd_d044e : GoodIn wsJ2_indexOfSupplementary_4cfef wsJ2_checkBoundsBeginEnd_d044e := goodIn_r _ [16, 17, 18, 15, 19, 20, 21, 22, 23, 24, 25, 26, 27, 28] (by decide +kernel) (by decide +kernel)
set_option maxRecDepth 20000 in
theorem gJ2_indexOfSupplementary_4cfef_J2_checkBoundsBeginEnd_d044e : GoodIn wsJ2_indexOfSupplementary_4cfef (va_wsS RJ2 96 yJ2_checkBoundsBeginEnd_d044e wsJ2_checkBoundsBeginEnd_d044e) := goodIn_app (goodIn_of _ (by decide +kernel)) ggJ2_indexOfSupplementary_4cfef_J2_checkBoundsBeginEnd_d044e
set_option maxRecDepth 20000 in
theorem ggJ2_indexOfSupplementary_4cfef_J2_getChar_3b067 : GoodIn wsJ2_indexOfSupplementary_4cfef wsJ2_getChar_3b067 := goodIn_r _ [31, 32, 33, 34, 17, 18, 15, 19] (by decide +kernel) (by decide +kernel)
set_option maxRecDepth 20000 in
theorem gJ2_indexOfSupplementary_4cfef_J2_getChar_3b067 : GoodIn wsJ2_indexOfSupplementary_4cfef (va_wsS RJ2 71 yJ2_getChar_3b067 wsJ2_getChar_3b067) := goodIn_app (goodIn_of _ (by decide +kernel)) ggJ2_indexOfSupplementary_4cfef_J2_getChar_3b067
theorem dJ2_indexOfSupplementary_4cfef_0 : decode cJ2_indexOfSupplementary_4cfef 0 = .ok (.iload_n 1, 1) := by decide +kernel
theorem dJ2_indexOfSupplementary_4cfef_1 : decode cJ2_indexOfSupplementary_4cfef 1 = .ok (.invokestatic 164, 3) := by decide +kernel
theorem dJ2_indexOfSupplementary_4cfef_4 : decode cJ2_indexOfSupplementary_4cfef 4 = .ok (.ifCond .eq 65, 3) := by decide +kernel
theorem dJ2_indexOfSupplementary_4cfef_7 : decode cJ2_indexOfSupplementary_4cfef 7 = .ok (.iload_n 1, 1) := by decide +kernel
theorem dJ2_indexOfSupplementary_4cfef_8 : decode cJ2_indexOfSupplementary_4cfef 8 = .ok (.invokestatic 157, 3) := by decide +kernel
theorem dJ2_indexOfSupplementary_4cfef_11 : decode cJ2_indexOfSupplementary_4cfef 11 = .ok (.istore 4, 2) := by decide +kernel
theorem dJ2_indexOfSupplementary_4cfef_13 : decode cJ2_indexOfSupplementary_4cfef 13 = .ok (.iload_n 1, 1) := by decide +kernel
theorem dJ2_indexOfSupplementary_4cfef_14 : decode cJ2_indexOfSupplementary_4cfef 14 = .ok (.invokestatic 161, 3) := by decide +kernel
theorem dJ2_indexOfSupplementary_4cfef_17 : decode cJ2_indexOfSupplementary_4cfef 17 = .ok (.istore 5, 2) := by decide +kernel
theorem dJ2_indexOfSupplementary_4cfef_19 : decode cJ2_indexOfSupplementary_4cfef 19 = .ok (.iload_n 2, 1) := by decide +kernel
theorem dJ2_indexOfSupplementary_4cfef_20 : decode cJ2_indexOfSupplementary_4cfef 20 = .ok (.iload_n 3, 1) := by decide +kernel
theorem dJ2_indexOfSupplementary_4cfef_21 : decode cJ2_indexOfSupplementary_4cfef 21 = .ok (.aload_n 0, 1) := by decide +kernel
theorem dJ2_indexOfSupplementary_4cfef_22 : decode cJ2_indexOfSupplementary_4cfef 22 = .ok (.invokestatic 96, 3) := by decide +kernel
theorem dJ2_indexOfSupplementary_4cfef_25 : decode cJ2_indexOfSupplementary_4cfef 25 = .ok (.iload_n 2, 1) := by decide +kernel
theorem dJ2_indexOfSupplementary_4cfef_26 : decode cJ2_indexOfSupplementary_4cfef 26 = .ok (.istore 6, 2) := by decide +kernel
theorem dJ2_indexOfSupplementary_4cfef_28 : decode cJ2_indexOfSupplementary_4cfef 28 = .ok (.iload 6, 2) := by decide +kernel
theorem dJ2_indexOfSupplementary_4cfef_30 : decode cJ2_indexOfSupplementary_4cfef 30 = .ok (.iload_n 3, 1) := by decide +kernel
theorem dJ2_indexOfSupplementary_4cfef_31 : decode cJ2_indexOfSupplementary_4cfef 31 = .ok (.iconst 1, 1) := by decide +kernel
theorem dJ2_indexOfSupplementary_4cfef_32 : decode cJ2_indexOfSupplementary_4cfef 32 = .ok (.isub, 1) := by decide +kernel
theorem dJ2_indexOfSupplementary_4cfef_33 : decode cJ2_indexOfSupplementary_4cfef 33 = .ok (.if_icmp .ge 36, 3) := by decide +kernel
theorem dJ2_indexOfSupplementary_4cfef_36 : decode cJ2_indexOfSupplementary_4cfef 36 = .ok (.aload_n 0, 1) := by decide +kernel
theorem dJ2_indexOfSupplementary_4cfef_37 : decode cJ2_indexOfSupplementary_4cfef 37 = .ok (.iload 6, 2) := by decide +kernel
theorem dJ2_indexOfSupplementary_4cfef_39 : decode cJ2_indexOfSupplementary_4cfef 39 = .ok (.invokestatic 71, 3) := by decide +kernel
theorem dJ2_indexOfSupplementary_4cfef_42 : decode cJ2_indexOfSupplementary_4cfef 42 = .ok (.iload 4, 2) := by decide +kernel
theorem dJ2_indexOfSupplementary_4cfef_44 : decode cJ2_indexOfSupplementary_4cfef 44 = .ok (.if_icmp .ne 19, 3) := by decide +kernel
theorem dJ2_indexOfSupplementary_4cfef_47 : decode cJ2_indexOfSupplementary_4cfef 47 = .ok (.aload_n 0, 1) := by decide +kernel
theorem dJ2_indexOfSupplementary_4cfef_48 : decode cJ2_indexOfSupplementary_4cfef 48 = .ok (.iload 6, 2) := by decide +kernel
theorem dJ2_indexOfSupplementary_4cfef_50 : decode cJ2_indexOfSupplementary_4cfef 50 = .ok (.iconst 1, 1) := by decide +kernel
theorem dJ2_indexOfSupplementary_4cfef_51 : decode cJ2_indexOfSupplementary_4cfef 51 = .ok (.iadd, 1) := by decide +kernel
theorem dJ2_indexOfSupplementary_4cfef_52 : decode cJ2_indexOfSupplementary_4cfef 52 = .ok (.invokestatic 71, 3) := by decide +kernel
theorem dJ2_indexOfSupplementary_4cfef_55 : decode cJ2_indexOfSupplementary_4cfef 55 = .ok (.iload 5, 2) := by decide +kernel
theorem dJ2_indexOfSupplementary_4cfef_57 : decode cJ2_indexOfSupplementary_4cfef 57 = .ok (.if_icmp .ne 6, 3) := by decide +kernel
theorem dJ2_indexOfSupplementary_4cfef_60 : decode cJ2_indexOfSupplementary_4cfef 60 = .ok (.iload 6, 2) := by decide +kernel
theorem dJ2_indexOfSupplementary_4cfef_62 : decode cJ2_indexOfSupplementary_4cfef 62 = .ok (.ireturn, 1) := by decide +kernel
theorem dJ2_indexOfSupplementary_4cfef_63 : decode cJ2_indexOfSupplementary_4cfef 63 = .ok (.iinc 6 1, 3) := by decide +kernel
theorem dJ2_indexOfSupplementary_4cfef_66 : decode cJ2_indexOfSupplementary_4cfef 66 = .ok (.goto (-38), 3) := by decide +kernel
theorem dJ2_indexOfSupplementary_4cfef_69 : decode cJ2_indexOfSupplementary_4cfef 69 = .ok (.iconst (-1), 1) := by decide +kernel
theorem dJ2_indexOfSupplementary_4cfef_70 : decode cJ2_indexOfSupplementary_4cfef 70 = .ok (.ireturn, 1) := by decide +kernel
set_option maxRecDepth 20000 in
theorem ggJ2_checkBoundsBeginEnd_d044e_J2_length_9d52b : GoodIn wsJ2_checkBoundsBeginEnd_d044e wsJ2_length_9d52b := goodIn_r _ [4] (by decide +kernel) (by decide +kernel)
set_option maxRecDepth 20000 in
theorem gJ2_checkBoundsBeginEnd_d044e_J2_length_9d52b : GoodIn wsJ2_checkBoundsBeginEnd_d044e (va_wsS RJ2 48 yJ2_length_9d52b wsJ2_length_9d52b) := goodIn_app (goodIn_of _ (by decide +kernel)) ggJ2_checkBoundsBeginEnd_d044e_J2_length_9d52b
set_option maxRecDepth 20000 in
theorem ggJ2_checkBoundsBeginEnd_d044e_J0_checkBoundsBeginEnd_23922 : GoodIn wsJ2_checkBoundsBeginEnd_d044e wsJ0_checkBoundsBeginEnd_23922 := goodIn_r _ [8, 9, 10, 11, 12, 13] (by decide +kernel) (by decide +kernel)
set_option maxRecDepth 20000 in
theorem gJ2_checkBoundsBeginEnd_d044e_J0_checkBoundsBeginEnd_23922 : GoodIn wsJ2_checkBoundsBeginEnd_d044e (va_wsS RJ2 241 yJ0_checkBoundsBeginEnd_23922 wsJ0_checkBoundsBeginEnd_23922) := goodIn_app (goodIn_of _ (by decide +kernel)) ggJ2_checkBoundsBeginEnd_d044e_J0_checkBoundsBeginEnd_23922
theorem dJ2_checkBoundsBeginEnd_d044e_0 : decode cJ2_checkBoundsBeginEnd_d044e 0 = .ok (.iload_n 0, 1) := by decide +kernel
theorem dJ2_checkBoundsBeginEnd_d044e_1 : decode cJ2_checkBoundsBeginEnd_d044e 1 = .ok (.iload_n 1, 1) := by decide +kernel
theorem dJ2_checkBoundsBeginEnd_d044e_2 : decode cJ2_checkBoundsBeginEnd_d044e 2 = .ok (.aload_n 2, 1) := by decide +kernel
theorem dJ2_checkBoundsBeginEnd_d044e_3 : decode cJ2_checkBoundsBeginEnd_d044e 3 = .ok (.invokestatic 48, 3) := by decide +kernel
theorem dJ2_checkBoundsBeginEnd_d044e_6 : decode cJ2_checkBoundsBeginEnd_d044e 6 = .ok (.invokestatic 241, 3) := by decide +kernel
theorem dJ2_checkBoundsBeginEnd_d044e_9 : decode cJ2_checkBoundsBeginEnd_d044e 9 = .ok (.return_, 1) := by decide +kernel
theorem dJ3_checkFromToIndex_8c36e_0 : decode cJ3_checkFromToIndex_8c36e 0 = .ok (.iload_n 0, 1) := by decide +kernel
theorem dJ3_checkFromToIndex_8c36e_1 : decode cJ3_checkFromToIndex_8c36e 1 = .ok (.ifCond .lt 13, 3) := by decide +kernel
theorem dJ3_checkFromToIndex_8c36e_4 : decode cJ3_checkFromToIndex_8c36e 4 = .ok (.iload_n 0, 1) := by decide +kernel
theorem dJ3_checkFromToIndex_8c36e_5 : decode cJ3_checkFromToIndex_8c36e 5 = .ok (.iload_n 1, 1) := by decide +kernel
theorem dJ3_checkFromToIndex_8c36e_6 : decode cJ3_checkFromToIndex_8c36e 6 = .ok (.if_icmp .gt 8, 3) := by decide +kernel
theorem dJ3_checkFromToIndex_8c36e_9 : decode cJ3_checkFromToIndex_8c36e 9 = .ok (.iload_n 1, 1) := by decide +kernel
theorem dJ3_checkFromToIndex_8c36e_10 : decode cJ3_checkFromToIndex_8c36e 10 = .ok (.iload_n 2, 1) := by decide +kernel
theorem dJ3_checkFromToIndex_8c36e_11 : decode cJ3_checkFromToIndex_8c36e 11 = .ok (.if_icmp .le 11, 3) := by decide +kernel
theorem dJ3_checkFromToIndex_8c36e_14 : decode cJ3_checkFromToIndex_8c36e 14 = .ok (.aload_n 3, 1) := by decide +kernel
theorem dJ3_checkFromToIndex_8c36e_15 : decode cJ3_checkFromToIndex_8c36e 15 = .ok (.iload_n 0, 1) := by decide +kernel
theorem dJ3_checkFromToIndex_8c36e_16 : decode cJ3_checkFromToIndex_8c36e 16 = .ok (.iload_n 1, 1) := by decide +kernel
theorem dJ3_checkFromToIndex_8c36e_17 : decode cJ3_checkFromToIndex_8c36e 17 = .ok (.iload_n 2, 1) := by decide +kernel
theorem dJ3_checkFromToIndex_8c36e_18 : decode cJ3_checkFromToIndex_8c36e 18 = .ok (.invokestatic 99, 3) := by decide +kernel
theorem dJ3_checkFromToIndex_8c36e_21 : decode cJ3_checkFromToIndex_8c36e 21 = .ok (.athrow, 1) := by decide +kernel
theorem dJ3_checkFromToIndex_8c36e_22 : decode cJ3_checkFromToIndex_8c36e 22 = .ok (.iload_n 0, 1) := by decide +kernel
theorem dJ3_checkFromToIndex_8c36e_23 : decode cJ3_checkFromToIndex_8c36e 23 = .ok (.ireturn, 1) := by decide +kernel
