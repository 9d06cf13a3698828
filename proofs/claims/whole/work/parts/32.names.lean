theorem dX7_quote_13 : decode cX7_quote 13 = .ok (.invokestatic 224, 3) := by decide +kernel
theorem dX7_quote_16 : decode cX7_quote 16 = .ok (.ifCond .eq 26, 3) := by decide +kernel
theorem dX7_quote_19 : decode cX7_quote 19 = .ok (.iload_n 3, 1) := by decide +kernel
theorem dX7_quote_20 : decode cX7_quote 20 = .ok (.invokestatic 224, 3) := by decide +kernel
theorem dX7_quote_23 : decode cX7_quote 23 = .ok (.ifCond .eq 19, 3) := by decide +kernel
theorem dX7_quote_26 : decode cX7_quote 26 = .ok (.iload 4, 2) := by decide +kernel
theorem dX7_quote_28 : decode cX7_quote 28 = .ok (.invokestatic 224, 3) := by decide +kernel
theorem dX7_quote_31 : decode cX7_quote 31 = .ok (.ifCond .eq 11, 3) := by decide +kernel
theorem dX7_quote_34 : decode cX7_quote 34 = .ok (.iload 5, 2) := by decide +kernel
theorem dX7_quote_36 : decode cX7_quote 36 = .ok (.invokestatic 128, 3) := by decide +kernel
theorem dX7_quote_39 : decode cX7_quote 39 = .ok (.ifCond .ne 6, 3) := by decide +kernel
theorem dX7_quote_42 : decode cX7_quote 42 = .ok (.ldc 89, 2) := by decide +kernel
theorem dX7_quote_44 : decode cX7_quote 44 = .ok (.ireturn, 1) := by decide +kernel
theorem dX7_quote_45 : decode cX7_quote 45 = .ok (.aload_n 0, 1) := by decide +kernel
theorem dX7_quote_46 : decode cX7_quote 46 = .ok (.iload 5, 2) := by decide +kernel
theorem dX7_quote_48 : decode cX7_quote 48 = .ok (.invokevirtual 132, 3) := by decide +kernel
theorem dX7_quote_51 : decode cX7_quote 51 = .ok (.ifCond .ne 6, 3) := by decide +kernel
theorem dX7_quote_54 : decode cX7_quote 54 = .ok (.ldc 108, 2) := by decide +kernel
theorem dX7_quote_56 : decode cX7_quote 56 = .ok (.ireturn, 1) := by decide +kernel
theorem dX7_quote_57 : decode cX7_quote 57 = .ok (.aload_n 0, 1) := by decide +kernel
theorem dX7_quote_58 : decode cX7_quote 58 = .ok (.invokevirtual 229, 3) := by decide +kernel
theorem dX7_quote_61 : decode cX7_quote 61 = .ok (.aload_n 0, 1) := by decide +kernel
theorem dX7_quote_62 : decode cX7_quote 62 = .ok (.iload_n 1, 1) := by decide +kernel
theorem dX7_quote_63 : decode cX7_quote 63 = .ok (.i2l, 1) := by decide +kernel
theorem dX7_quote_64 : decode cX7_quote 64 = .ok (.iload_n 2, 1) := by decide +kernel
theorem dX7_quote_65 : decode cX7_quote 65 = .ok (.i2l, 1) := by decide +kernel
theorem dX7_quote_66 : decode cX7_quote 66 = .ok (.iload_n 3, 1) := by decide +kernel
theorem dX7_quote_67 : decode cX7_quote 67 = .ok (.i2l, 1) := by decide +kernel
theorem dX7_quote_68 : decode cX7_quote 68 = .ok (.iload 4, 2) := by decide +kernel
theorem dX7_quote_70 : decode cX7_quote 70 = .ok (.i2l, 1) := by decide +kernel
theorem dX7_quote_71 : decode cX7_quote 71 = .ok (.iload 5, 2) := by decide +kernel
theorem dX7_quote_73 : decode cX7_quote 73 = .ok (.invokevirtual 232, 3) := by decide +kernel
theorem dX7_quote_76 : decode cX7_quote 76 = .ok (.l2i, 1) := by decide +kernel
theorem dX7_quote_77 : decode cX7_quote 77 = .ok (.ireturn, 1) := by decide +kernel
theorem dX7_parcelAt_0 : decode cX7_parcelAt 0 = .ok (.sipush 570, 3) := by decide +kernel
theorem dX7_parcelAt_3 : decode cX7_parcelAt 3 = .ok (.bipush 12, 2) := by decide +kernel
theorem dX7_parcelAt_5 : decode cX7_parcelAt 5 = .ok (.iload_n 0, 1) := by decide +kernel
theorem dX7_parcelAt_6 : decode cX7_parcelAt 6 = .ok (.imul, 1) := by decide +kernel
theorem dX7_parcelAt_7 : decode cX7_parcelAt 7 = .ok (.iadd, 1) := by decide +kernel
theorem dX7_parcelAt_8 : decode cX7_parcelAt 8 = .ok (.iload_n 1, 1) := by decide +kernel
theorem dX7_parcelAt_9 : decode cX7_parcelAt 9 = .ok (.iadd, 1) := by decide +kernel
theorem dX7_parcelAt_10 : decode cX7_parcelAt 10 = .ok (.ireturn, 1) := by decide +kernel
theorem dX7_noteAt_0 : decode cX7_noteAt 0 = .ok (.sipush 940, 3) := by decide +kernel
theorem dX7_noteAt_3 : decode cX7_noteAt 3 = .ok (.bipush 12, 2) := by decide +kernel
theorem dX7_noteAt_5 : decode cX7_noteAt 5 = .ok (.iload_n 0, 1) := by decide +kernel
theorem dX7_noteAt_6 : decode cX7_noteAt 6 = .ok (.imul, 1) := by decide +kernel
theorem dX7_noteAt_7 : decode cX7_noteAt 7 = .ok (.iadd, 1) := by decide +kernel
theorem dX7_noteAt_8 : decode cX7_noteAt 8 = .ok (.iload_n 1, 1) := by decide +kernel
theorem dX7_noteAt_9 : decode cX7_noteAt 9 = .ok (.iadd, 1) := by decide +kernel
theorem dX7_noteAt_10 : decode cX7_noteAt 10 = .ok (.ireturn, 1) := by decide +kernel
set_option maxRecDepth 20000 in
theorem ggX7_isParcel_X7_in : GoodIn wsX7_isParcel wsX7_in := goodIn_r _ [5] (by decide +kernel) (by decide +kernel)
set_option maxRecDepth 20000 in
theorem gX7_isParcel_X7_in : GoodIn wsX7_isParcel (va_wsS RX7 69 yX7_in wsX7_in) := goodIn_app (goodIn_of _ (by decide +kernel)) ggX7_isParcel_X7_in
theorem dX7_isParcel_0 : decode cX7_isParcel 0 = .ok (.iload_n 1, 1) := by decide +kernel
theorem dX7_isParcel_1 : decode cX7_isParcel 1 = .ok (.i2l, 1) := by decide +kernel
theorem dX7_isParcel_2 : decode cX7_isParcel 2 = .ok (.lconst 0, 1) := by decide +kernel
theorem dX7_isParcel_3 : decode cX7_isParcel 3 = .ok (.aload_n 0, 1) := by decide +kernel
theorem dX7_isParcel_4 : decode cX7_isParcel 4 = .ok (.getfield 7, 3) := by decide +kernel
theorem dX7_isParcel_7 : decode cX7_isParcel 7 = .ok (.bipush 19, 2) := by decide +kernel
theorem dX7_isParcel_9 : decode cX7_isParcel 9 = .ok (.laload, 1) := by decide +kernel
theorem dX7_isParcel_10 : decode cX7_isParcel 10 = .ok (.lconst 1, 1) := by decide +kernel
theorem dX7_isParcel_11 : decode cX7_isParcel 11 = .ok (.lsub, 1) := by decide +kernel
theorem dX7_isParcel_12 : decode cX7_isParcel 12 = .ok (.invokestatic 69, 3) := by decide +kernel
theorem dX7_isParcel_15 : decode cX7_isParcel 15 = .ok (.ireturn, 1) := by decide +kernel
set_option maxRecDepth 20000 in
theorem ggX7_openOf_X7_noteAt : GoodIn wsX7_openOf wsX7_noteAt := goodIn_r _ [6] (by decide +kernel) (by decide +kernel)
set_option maxRecDepth 20000 in
theorem gX7_openOf_X7_noteAt : GoodIn wsX7_openOf (va_wsS RX7 240 yX7_noteAt wsX7_noteAt) := goodIn_app (goodIn_of _ (by decide +kernel)) ggX7_openOf_X7_noteAt
theorem dX7_openOf_0 : decode cX7_openOf 0 = .ok (.ldc 239, 2) := by decide +kernel
theorem dX7_openOf_2 : decode cX7_openOf 2 = .ok (.istore_n 2, 1) := by decide +kernel
theorem dX7_openOf_3 : decode cX7_openOf 3 = .ok (.iconst 0, 1) := by decide +kernel
theorem dX7_openOf_4 : decode cX7_openOf 4 = .ok (.istore_n 3, 1) := by decide +kernel
theorem dX7_openOf_5 : decode cX7_openOf 5 = .ok (.iload_n 3, 1) := by decide +kernel
theorem dX7_openOf_6 : decode cX7_openOf 6 = .ok (.i2l, 1) := by decide +kernel
theorem dX7_openOf_7 : decode cX7_openOf 7 = .ok (.aload_n 0, 1) := by decide +kernel
theorem dX7_openOf_8 : decode cX7_openOf 8 = .ok (.getfield 7, 3) := by decide +kernel
theorem dX7_openOf_11 : decode cX7_openOf 11 = .ok (.bipush 20, 2) := by decide +kernel
theorem dX7_openOf_13 : decode cX7_openOf 13 = .ok (.laload, 1) := by decide +kernel
theorem dX7_openOf_14 : decode cX7_openOf 14 = .ok (.lcmp, 1) := by decide +kernel
theorem dX7_openOf_15 : decode cX7_openOf 15 = .ok (.ifCond .ge 46, 3) := by decide +kernel
theorem dX7_openOf_18 : decode cX7_openOf 18 = .ok (.aload_n 0, 1) := by decide +kernel
theorem dX7_openOf_19 : decode cX7_openOf 19 = .ok (.getfield 7, 3) := by decide +kernel
theorem dX7_openOf_22 : decode cX7_openOf 22 = .ok (.iload_n 3, 1) := by decide +kernel
theorem dX7_openOf_23 : decode cX7_openOf 23 = .ok (.iconst 0, 1) := by decide +kernel
theorem dX7_openOf_24 : decode cX7_openOf 24 = .ok (.invokestatic 240, 3) := by decide +kernel
theorem dX7_openOf_27 : decode cX7_openOf 27 = .ok (.laload, 1) := by decide +kernel
theorem dX7_openOf_28 : decode cX7_openOf 28 = .ok (.iload_n 1, 1) := by decide +kernel
theorem dX7_openOf_29 : decode cX7_openOf 29 = .ok (.i2l, 1) := by decide +kernel
theorem dX7_openOf_30 : decode cX7_openOf 30 = .ok (.lcmp, 1) := by decide +kernel
theorem dX7_openOf_31 : decode cX7_openOf 31 = .ok (.ifCond .ne 22, 3) := by decide +kernel
theorem dX7_openOf_34 : decode cX7_openOf 34 = .ok (.aload_n 0, 1) := by decide +kernel
theorem dX7_openOf_35 : decode cX7_openOf 35 = .ok (.getfield 7, 3) := by decide +kernel
theorem dX7_openOf_38 : decode cX7_openOf 38 = .ok (.iload_n 3, 1) := by decide +kernel
theorem dX7_openOf_39 : decode cX7_openOf 39 = .ok (.iconst 4, 1) := by decide +kernel
theorem dX7_openOf_40 : decode cX7_openOf 40 = .ok (.invokestatic 240, 3) := by decide +kernel
theorem dX7_openOf_43 : decode cX7_openOf 43 = .ok (.laload, 1) := by decide +kernel
theorem dX7_openOf_44 : decode cX7_openOf 44 = .ok (.lconst 0, 1) := by decide +kernel
theorem dX7_openOf_45 : decode cX7_openOf 45 = .ok (.lcmp, 1) := by decide +kernel
theorem dX7_openOf_46 : decode cX7_openOf 46 = .ok (.ifCond .ne 7, 3) := by decide +kernel
theorem dX7_openOf_49 : decode cX7_openOf 49 = .ok (.iload_n 3, 1) := by decide +kernel
theorem dX7_openOf_50 : decode cX7_openOf 50 = .ok (.goto 4, 3) := by decide +kernel
theorem dX7_openOf_53 : decode cX7_openOf 53 = .ok (.iload_n 2, 1) := by decide +kernel
theorem dX7_openOf_54 : decode cX7_openOf 54 = .ok (.istore_n 2, 1) := by decide +kernel
theorem dX7_openOf_55 : decode cX7_openOf 55 = .ok (.iinc 3 1, 3) := by decide +kernel
theorem dX7_openOf_58 : decode cX7_openOf 58 = .ok (.goto (-53), 3) := by decide +kernel
theorem dX7_openOf_61 : decode cX7_openOf 61 = .ok (.iload_n 2, 1) := by decide +kernel
theorem dX7_openOf_62 : decode cX7_openOf 62 = .ok (.ireturn, 1) := by decide +kernel
set_option maxRecDepth 20000 in
theorem ggX7_told_X7_parcelAt : GoodIn wsX7_told wsX7_parcelAt := goodIn_r _ [5] (by decide +kernel) (by decide +kernel)
set_option maxRecDepth 20000 in
theorem gX7_told_X7_parcelAt : GoodIn wsX7_told (va_wsS RX7 236 yX7_parcelAt wsX7_parcelAt) := goodIn_app (goodIn_of _ (by decide +kernel)) ggX7_told_X7_parcelAt
set_option maxRecDepth 20000 in
theorem ggX7_told_X7_girth : GoodIn wsX7_told wsX7_girth := goodIn_r _ [8, 9, 10, 11, 4, 12] (by decide +kernel) (by decide +kernel)
set_option maxRecDepth 20000 in
theorem gX7_told_X7_girth : GoodIn wsX7_told (va_wsS RX7 214 yX7_girth wsX7_girth) := goodIn_app (goodIn_of _ (by decide +kernel)) ggX7_told_X7_girth
set_option maxRecDepth 20000 in
theorem ggX7_told_X7_openOf : GoodIn wsX7_told wsX7_openOf := goodIn_r _ [16, 17, 1, 18, 19, 4, 20, 21, 22, 23, 24, 25, 26, 27, 28, 29, 30, 31, 32, 33, 34, 35, 36, 37, 38, 39] (by decide +kernel) (by decide +kernel)
set_option maxRecDepth 20000 in
theorem gX7_told_X7_openOf : GoodIn wsX7_told (wsV RX7 243 RX7 yX7_openOf wsX7_openOf) := goodIn_app (goodIn_of _ (by decide +kernel)) ggX7_told_X7_openOf
theorem dX7_told_0 : decode cX7_told 0 = .ok (.iload_n 2, 1) := by decide +kernel
theorem dX7_told_1 : decode cX7_told 1 = .ok (.bipush 9, 2) := by decide +kernel
theorem dX7_told_3 : decode cX7_told 3 = .ok (.if_icmp .ne 37, 3) := by decide +kernel
theorem dX7_told_6 : decode cX7_told 6 = .ok (.aload_n 0, 1) := by decide +kernel
theorem dX7_told_7 : decode cX7_told 7 = .ok (.getfield 7, 3) := by decide +kernel
theorem dX7_told_10 : decode cX7_told 10 = .ok (.iload_n 1, 1) := by decide +kernel
theorem dX7_told_11 : decode cX7_told 11 = .ok (.iconst 1, 1) := by decide +kernel
theorem dX7_told_12 : decode cX7_told 12 = .ok (.invokestatic 236, 3) := by decide +kernel
theorem dX7_told_15 : decode cX7_told 15 = .ok (.laload, 1) := by decide +kernel
theorem dX7_told_16 : decode cX7_told 16 = .ok (.aload_n 0, 1) := by decide +kernel
theorem dX7_told_17 : decode cX7_told 17 = .ok (.getfield 7, 3) := by decide +kernel
theorem dX7_told_20 : decode cX7_told 20 = .ok (.iload_n 1, 1) := by decide +kernel
theorem dX7_told_21 : decode cX7_told 21 = .ok (.iconst 2, 1) := by decide +kernel
theorem dX7_told_22 : decode cX7_told 22 = .ok (.invokestatic 236, 3) := by decide +kernel
theorem dX7_told_25 : decode cX7_told 25 = .ok (.laload, 1) := by decide +kernel
theorem dX7_told_26 : decode cX7_told 26 = .ok (.aload_n 0, 1) := by decide +kernel
theorem dX7_told_27 : decode cX7_told 27 = .ok (.getfield 7, 3) := by decide +kernel
theorem dX7_told_30 : decode cX7_told 30 = .ok (.iload_n 1, 1) := by decide +kernel
theorem dX7_told_31 : decode cX7_told 31 = .ok (.iconst 3, 1) := by decide +kernel
theorem dX7_told_32 : decode cX7_told 32 = .ok (.invokestatic 236, 3) := by decide +kernel
theorem dX7_told_35 : decode cX7_told 35 = .ok (.laload, 1) := by decide +kernel
theorem dX7_told_36 : decode cX7_told 36 = .ok (.invokestatic 214, 3) := by decide +kernel
theorem dX7_told_39 : decode cX7_told 39 = .ok (.lreturn, 1) := by decide +kernel
theorem dX7_told_40 : decode cX7_told 40 = .ok (.iload_n 2, 1) := by decide +kernel
theorem dX7_told_41 : decode cX7_told 41 = .ok (.bipush 10, 2) := by decide +kernel
theorem dX7_told_43 : decode cX7_told 43 = .ok (.if_icmp .ne 12, 3) := by decide +kernel
theorem dX7_told_46 : decode cX7_told 46 = .ok (.aload_n 0, 1) := by decide +kernel
theorem dX7_told_47 : decode cX7_told 47 = .ok (.iload_n 1, 1) := by decide +kernel
theorem dX7_told_48 : decode cX7_told 48 = .ok (.invokevirtual 243, 3) := by decide +kernel
theorem dX7_told_51 : decode cX7_told 51 = .ok (.i2l, 1) := by decide +kernel
theorem dX7_told_52 : decode cX7_told 52 = .ok (.goto 13, 3) := by decide +kernel
theorem dX7_told_55 : decode cX7_told 55 = .ok (.aload_n 0, 1) := by decide +kernel
theorem dX7_told_56 : decode cX7_told 56 = .ok (.getfield 7, 3) := by decide +kernel
theorem dX7_told_59 : decode cX7_told 59 = .ok (.iload_n 1, 1) := by decide +kernel
theorem dX7_told_60 : decode cX7_told 60 = .ok (.iload_n 2, 1) := by decide +kernel
theorem dX7_told_61 : decode cX7_told 61 = .ok (.invokestatic 236, 3) := by decide +kernel
theorem dX7_told_64 : decode cX7_told 64 = .ok (.laload, 1) := by decide +kernel
theorem dX7_told_65 : decode cX7_told 65 = .ok (.lreturn, 1) := by decide +kernel
set_option maxRecDepth 20000 in
theorem ggX7_parcel_X7_isParcel : GoodIn wsX7_parcel wsX7_isParcel := goodIn_r _ [7, 8, 9, 10, 6, 11, 34, 35, 36, 37, 38, 39, 40, 41, 42, 43, 44, 45, 46, 47, 48, 49, 50, 51, 52] (by decide +kernel) (by decide +kernel)
set_option maxRecDepth 20000 in
theorem gX7_parcel_X7_isParcel : GoodIn wsX7_parcel (wsV RX7 246 RX7 yX7_isParcel wsX7_isParcel) := goodIn_app (goodIn_of _ (by decide +kernel)) ggX7_parcel_X7_isParcel
set_option maxRecDepth 20000 in
theorem ggX7_parcel_X7_in : GoodIn wsX7_parcel wsX7_in := goodIn_r _ [11] (by decide +kernel) (by decide +kernel)
set_option maxRecDepth 20000 in
theorem gX7_parcel_X7_in : GoodIn wsX7_parcel (va_wsS RX7 69 yX7_in wsX7_in) := goodIn_app (goodIn_of _ (by decide +kernel)) ggX7_parcel_X7_in
set_option maxRecDepth 20000 in
theorem ggX7_parcel_X7_told : GoodIn wsX7_parcel wsX7_told := goodIn_r _ [15, 8, 16, 17, 6, 18, 19, 20, 21, 22, 23, 24, 25, 26, 27, 28, 29, 30, 31, 32, 33, 34, 35, 36, 37, 38, 39, 40, 41, 42, 43, 44, 45, 46, 47, 48, 49, 50, 51, 52] (by decide +kernel) (by decide +kernel)
set_option maxRecDepth 20000 in
theorem gX7_parcel_X7_told : GoodIn wsX7_parcel (wsV RX7 249 RX7 yX7_told wsX7_told) := goodIn_app (goodIn_of _ (by decide +kernel)) ggX7_parcel_X7_told
theorem dX7_parcel_0 : decode cX7_parcel 0 = .ok (.aload_n 0, 1) := by decide +kernel
theorem dX7_parcel_1 : decode cX7_parcel 1 = .ok (.iload_n 1, 1) := by decide +kernel
theorem dX7_parcel_2 : decode cX7_parcel 2 = .ok (.invokevirtual 246, 3) := by decide +kernel
theorem dX7_parcel_5 : decode cX7_parcel 5 = .ok (.ifCond .eq 25, 3) := by decide +kernel
theorem dX7_parcel_8 : decode cX7_parcel 8 = .ok (.iload_n 2, 1) := by decide +kernel
theorem dX7_parcel_9 : decode cX7_parcel 9 = .ok (.i2l, 1) := by decide +kernel
theorem dX7_parcel_10 : decode cX7_parcel 10 = .ok (.lconst 0, 1) := by decide +kernel
theorem dX7_parcel_11 : decode cX7_parcel 11 = .ok (.ldc2_w 48, 3) := by decide +kernel
theorem dX7_parcel_14 : decode cX7_parcel 14 = .ok (.invokestatic 69, 3) := by decide +kernel
theorem dX7_parcel_17 : decode cX7_parcel 17 = .ok (.ifCond .eq 13, 3) := by decide +kernel
theorem dX7_parcel_20 : decode cX7_parcel 20 = .ok (.aload_n 0, 1) := by decide +kernel
theorem dX7_parcel_21 : decode cX7_parcel 21 = .ok (.iload_n 1, 1) := by decide +kernel
theorem dX7_parcel_22 : decode cX7_parcel 22 = .ok (.iload_n 2, 1) := by decide +kernel
theorem dX7_parcel_23 : decode cX7_parcel 23 = .ok (.invokevirtual 249, 3) := by decide +kernel
theorem dX7_parcel_26 : decode cX7_parcel 26 = .ok (.l2i, 1) := by decide +kernel
theorem dX7_parcel_27 : decode cX7_parcel 27 = .ok (.goto 5, 3) := by decide +kernel
theorem dX7_parcel_30 : decode cX7_parcel 30 = .ok (.ldc 89, 2) := by decide +kernel
theorem dX7_parcel_32 : decode cX7_parcel 32 = .ok (.ireturn, 1) := by decide +kernel
set_option maxRecDepth 20000 in
theorem ggX7_reason_X7_parcelAt : GoodIn wsX7_reason wsX7_parcelAt := goodIn_r _ [6] (by decide +kernel) (by decide +kernel)
set_option maxRecDepth 20000 in
theorem gX7_reason_X7_parcelAt : GoodIn wsX7_reason (va_wsS RX7 236 yX7_parcelAt wsX7_parcelAt) := goodIn_app (goodIn_of _ (by decide +kernel)) ggX7_reason_X7_parcelAt
theorem dX7_reason_0 : decode cX7_reason 0 = .ok (.iload_n 2, 1) := by decide +kernel
theorem dX7_reason_1 : decode cX7_reason 1 = .ok (.iconst 2, 1) := by decide +kernel
theorem dX7_reason_2 : decode cX7_reason 2 = .ok (.if_icmp .ge 18, 3) := by decide +kernel
theorem dX7_reason_5 : decode cX7_reason 5 = .ok (.aload_n 0, 1) := by decide +kernel
theorem dX7_reason_6 : decode cX7_reason 6 = .ok (.getfield 7, 3) := by decide +kernel
theorem dX7_reason_9 : decode cX7_reason 9 = .ok (.iload_n 1, 1) := by decide +kernel
theorem dX7_reason_10 : decode cX7_reason 10 = .ok (.bipush 9, 2) := by decide +kernel
theorem dX7_reason_12 : decode cX7_reason 12 = .ok (.iload_n 2, 1) := by decide +kernel
theorem dX7_reason_13 : decode cX7_reason 13 = .ok (.iadd, 1) := by decide +kernel
theorem dX7_reason_14 : decode cX7_reason 14 = .ok (.invokestatic 236, 3) := by decide +kernel
theorem dX7_reason_17 : decode cX7_reason 17 = .ok (.laload, 1) := by decide +kernel
theorem dX7_reason_18 : decode cX7_reason 18 = .ok (.l2i, 1) := by decide +kernel
theorem dX7_reason_19 : decode cX7_reason 19 = .ok (.ireturn, 1) := by decide +kernel
theorem dX7_reason_20 : decode cX7_reason 20 = .ok (.iload_n 2, 1) := by decide +kernel
theorem dX7_reason_21 : decode cX7_reason 21 = .ok (.iconst 2, 1) := by decide +kernel
theorem dX7_reason_22 : decode cX7_reason 22 = .ok (.isub, 1) := by decide +kernel
theorem dX7_reason_23 : decode cX7_reason 23 = .ok (.istore_n 3, 1) := by decide +kernel
theorem dX7_reason_24 : decode cX7_reason 24 = .ok (.iconst 0, 1) := by decide +kernel
theorem dX7_reason_25 : decode cX7_reason 25 = .ok (.istore 4, 2) := by decide +kernel
theorem dX7_reason_27 : decode cX7_reason 27 = .ok (.iload 4, 2) := by decide +kernel
theorem dX7_reason_29 : decode cX7_reason 29 = .ok (.bipush 8, 2) := by decide +kernel
theorem dX7_reason_31 : decode cX7_reason 31 = .ok (.if_icmp .ge 43, 3) := by decide +kernel
theorem dX7_reason_34 : decode cX7_reason 34 = .ok (.aload_n 0, 1) := by decide +kernel
theorem dX7_reason_35 : decode cX7_reason 35 = .ok (.getfield 7, 3) := by decide +kernel
theorem dX7_reason_38 : decode cX7_reason 38 = .ok (.iload_n 1, 1) := by decide +kernel
theorem dX7_reason_39 : decode cX7_reason 39 = .ok (.bipush 11, 2) := by decide +kernel
theorem dX7_reason_41 : decode cX7_reason 41 = .ok (.invokestatic 236, 3) := by decide +kernel
theorem dX7_reason_44 : decode cX7_reason 44 = .ok (.laload, 1) := by decide +kernel
theorem dX7_reason_45 : decode cX7_reason 45 = .ok (.iload 4, 2) := by decide +kernel
theorem dX7_reason_47 : decode cX7_reason 47 = .ok (.lshr, 1) := by decide +kernel
theorem dX7_reason_48 : decode cX7_reason 48 = .ok (.lconst 1, 1) := by decide +kernel
theorem dX7_reason_49 : decode cX7_reason 49 = .ok (.land, 1) := by decide +kernel
theorem dX7_reason_50 : decode cX7_reason 50 = .ok (.lconst 1, 1) := by decide +kernel
theorem dX7_reason_51 : decode cX7_reason 51 = .ok (.lcmp, 1) := by decide +kernel
theorem dX7_reason_52 : decode cX7_reason 52 = .ok (.ifCond .ne 16, 3) := by decide +kernel
theorem dX7_reason_55 : decode cX7_reason 55 = .ok (.iload_n 3, 1) := by decide +kernel
theorem dX7_reason_56 : decode cX7_reason 56 = .ok (.ifCond .ne 9, 3) := by decide +kernel
theorem dX7_reason_59 : decode cX7_reason 59 = .ok (.bipush 30, 2) := by decide +kernel
theorem dX7_reason_61 : decode cX7_reason 61 = .ok (.iload 4, 2) := by decide +kernel
theorem dX7_reason_63 : decode cX7_reason 63 = .ok (.iadd, 1) := by decide +kernel
theorem dX7_reason_64 : decode cX7_reason 64 = .ok (.ireturn, 1) := by decide +kernel
theorem dX7_reason_65 : decode cX7_reason 65 = .ok (.iinc 3 (-1), 3) := by decide +kernel
theorem dX7_reason_68 : decode cX7_reason 68 = .ok (.iinc 4 1, 3) := by decide +kernel
theorem dX7_reason_71 : decode cX7_reason 71 = .ok (.goto (-44), 3) := by decide +kernel
theorem dX7_reason_74 : decode cX7_reason 74 = .ok (.ldc 239, 2) := by decide +kernel
theorem dX7_reason_76 : decode cX7_reason 76 = .ok (.ireturn, 1) := by decide +kernel
set_option maxRecDepth 20000 in
theorem ggX7_why_X7_isParcel : GoodIn wsX7_why wsX7_isParcel := goodIn_r _ [6, 7, 8, 9, 5, 10, 19, 20, 21, 22, 23, 24, 25, 26, 27, 28, 29, 30, 31, 32, 33, 34, 35, 36, 37] (by decide +kernel) (by decide +kernel)
set_option maxRecDepth 20000 in
theorem gX7_why_X7_isParcel : GoodIn wsX7_why (wsV RX7 246 RX7 yX7_isParcel wsX7_isParcel) := goodIn_app (goodIn_of _ (by decide +kernel)) ggX7_why_X7_isParcel
set_option maxRecDepth 20000 in
theorem ggX7_why_X7_reason : GoodIn wsX7_why wsX7_reason := goodIn_r _ [14, 7, 15, 16, 17, 5, 18, 19, 20, 21, 22, 23, 24, 25, 26, 27, 28, 29, 30, 31, 32, 33, 34, 35, 36, 37] (by decide +kernel) (by decide +kernel)
set_option maxRecDepth 20000 in
theorem gX7_why_X7_reason : GoodIn wsX7_why (wsV RX7 253 RX7 yX7_reason wsX7_reason) := goodIn_app (goodIn_of _ (by decide +kernel)) ggX7_why_X7_reason
theorem dX7_why_0 : decode cX7_why 0 = .ok (.aload_n 0, 1) := by decide +kernel
theorem dX7_why_1 : decode cX7_why 1 = .ok (.iload_n 1, 1) := by decide +kernel
theorem dX7_why_2 : decode cX7_why 2 = .ok (.invokevirtual 246, 3) := by decide +kernel
theorem dX7_why_5 : decode cX7_why 5 = .ok (.ifCond .eq 7, 3) := by decide +kernel
theorem dX7_why_8 : decode cX7_why 8 = .ok (.iload_n 2, 1) := by decide +kernel
theorem dX7_why_9 : decode cX7_why 9 = .ok (.ifCond .ge 8, 3) := by decide +kernel
theorem dX7_why_12 : decode cX7_why 12 = .ok (.ldc 89, 2) := by decide +kernel
theorem dX7_why_14 : decode cX7_why 14 = .ok (.goto 9, 3) := by decide +kernel
theorem dX7_why_17 : decode cX7_why 17 = .ok (.aload_n 0, 1) := by decide +kernel
theorem dX7_why_18 : decode cX7_why 18 = .ok (.iload_n 1, 1) := by decide +kernel
theorem dX7_why_19 : decode cX7_why 19 = .ok (.iload_n 2, 1) := by decide +kernel
theorem dX7_why_20 : decode cX7_why 20 = .ok (.invokevirtual 253, 3) := by decide +kernel
theorem dX7_why_23 : decode cX7_why 23 = .ok (.ireturn, 1) := by decide +kernel
theorem dX7_parcels_0 : decode cX7_parcels 0 = .ok (.aload_n 0, 1) := by decide +kernel
theorem dX7_parcels_1 : decode cX7_parcels 1 = .ok (.getfield 7, 3) := by decide +kernel
theorem dX7_parcels_4 : decode cX7_parcels 4 = .ok (.bipush 19, 2) := by decide +kernel
theorem dX7_parcels_6 : decode cX7_parcels 6 = .ok (.laload, 1) := by decide +kernel
theorem dX7_parcels_7 : decode cX7_parcels 7 = .ok (.l2i, 1) := by decide +kernel
theorem dX7_parcels_8 : decode cX7_parcels 8 = .ok (.ireturn, 1) := by decide +kernel
set_option maxRecDepth 20000 in
theorem ggX7_density_X7_isParcel : GoodIn wsX7_density wsX7_isParcel := goodIn_r _ [7, 2, 8, 9, 6, 10, 21, 22, 23, 24, 25, 26, 27, 28, 29, 30, 31, 32, 33, 34, 35, 36, 37, 38, 39] (by decide +kernel) (by decide +kernel)
set_option maxRecDepth 20000 in
theorem gX7_density_X7_isParcel : GoodIn wsX7_density (wsV RX7 246 RX7 yX7_isParcel wsX7_isParcel) := goodIn_app (goodIn_of _ (by decide +kernel)) ggX7_density_X7_isParcel
set_option maxRecDepth 20000 in
theorem ggX7_density_X7_parcelAt : GoodIn wsX7_density wsX7_parcelAt := goodIn_r _ [13] (by decide +kernel) (by decide +kernel)
set_option maxRecDepth 20000 in
theorem gX7_density_X7_parcelAt : GoodIn wsX7_density (va_wsS RX7 236 yX7_parcelAt wsX7_parcelAt) := goodIn_app (goodIn_of _ (by decide +kernel)) ggX7_density_X7_parcelAt
set_option maxRecDepth 20000 in
theorem ggX7_density_X7_volume : GoodIn wsX7_density wsX7_volume := goodIn_r _ [16, 17, 18, 19, 6, 20] (by decide +kernel) (by decide +kernel)
set_option maxRecDepth 20000 in
theorem gX7_density_X7_volume : GoodIn wsX7_density (va_wsS RX7 208 yX7_volume wsX7_volume) := goodIn_app (goodIn_of _ (by decide +kernel)) ggX7_density_X7_volume
theorem dX7_density_0 : decode cX7_density 0 = .ok (.aload_n 0, 1) := by decide +kernel
theorem dX7_density_1 : decode cX7_density 1 = .ok (.iload_n 1, 1) := by decide +kernel
theorem dX7_density_2 : decode cX7_density 2 = .ok (.invokevirtual 246, 3) := by decide +kernel
theorem dX7_density_5 : decode cX7_density 5 = .ok (.ifCond .ne 7, 3) := by decide +kernel
theorem dX7_density_8 : decode cX7_density 8 = .ok (.ldc_w 256, 3) := by decide +kernel
theorem dX7_density_11 : decode cX7_density 11 = .ok (.freturn, 1) := by decide +kernel
theorem dX7_density_12 : decode cX7_density 12 = .ok (.aload_n 0, 1) := by decide +kernel
theorem dX7_density_13 : decode cX7_density 13 = .ok (.getfield 7, 3) := by decide +kernel
theorem dX7_density_16 : decode cX7_density 16 = .ok (.iload_n 1, 1) := by decide +kernel
theorem dX7_density_17 : decode cX7_density 17 = .ok (.iconst 0, 1) := by decide +kernel
theorem dX7_density_18 : decode cX7_density 18 = .ok (.invokestatic 236, 3) := by decide +kernel
theorem dX7_density_21 : decode cX7_density 21 = .ok (.laload, 1) := by decide +kernel
theorem dX7_density_22 : decode cX7_density 22 = .ok (.l2f, 1) := by decide +kernel
theorem dX7_density_23 : decode cX7_density 23 = .ok (.aload_n 0, 1) := by decide +kernel
theorem dX7_density_24 : decode cX7_density 24 = .ok (.getfield 7, 3) := by decide +kernel
theorem dX7_density_27 : decode cX7_density 27 = .ok (.iload_n 1, 1) := by decide +kernel
theorem dX7_density_28 : decode cX7_density 28 = .ok (.iconst 1, 1) := by decide +kernel
theorem dX7_density_29 : decode cX7_density 29 = .ok (.invokestatic 236, 3) := by decide +kernel
theorem dX7_density_32 : decode cX7_density 32 = .ok (.laload, 1) := by decide +kernel
theorem dX7_density_33 : decode cX7_density 33 = .ok (.aload_n 0, 1) := by decide +kernel
theorem dX7_density_34 : decode cX7_density 34 = .ok (.getfield 7, 3) := by decide +kernel
theorem dX7_density_37 : decode cX7_density 37 = .ok (.iload_n 1, 1) := by decide +kernel
theorem dX7_density_38 : decode cX7_density 38 = .ok (.iconst 2, 1) := by decide +kernel
theorem dX7_density_39 : decode cX7_density 39 = .ok (.invokestatic 236, 3) := by decide +kernel
theorem dX7_density_42 : decode cX7_density 42 = .ok (.laload, 1) := by decide +kernel
theorem dX7_density_43 : decode cX7_density 43 = .ok (.aload_n 0, 1) := by decide +kernel
theorem dX7_density_44 : decode cX7_density 44 = .ok (.getfield 7, 3) := by decide +kernel
theorem dX7_density_47 : decode cX7_density 47 = .ok (.iload_n 1, 1) := by decide +kernel
theorem dX7_density_48 : decode cX7_density 48 = .ok (.iconst 3, 1) := by decide +kernel
theorem dX7_density_49 : decode cX7_density 49 = .ok (.invokestatic 236, 3) := by decide +kernel
theorem dX7_density_52 : decode cX7_density 52 = .ok (.laload, 1) := by decide +kernel
theorem dX7_density_53 : decode cX7_density 53 = .ok (.invokestatic 208, 3) := by decide +kernel
theorem dX7_density_56 : decode cX7_density 56 = .ok (.l2f, 1) := by decide +kernel
theorem dX7_density_57 : decode cX7_density 57 = .ok (.fdiv, 1) := by decide +kernel
theorem dX7_density_58 : decode cX7_density 58 = .ok (.freturn, 1) := by decide +kernel
set_option maxRecDepth 20000 in
theorem ggX7_with_X7_parcelAt : GoodIn wsX7_with wsX7_parcelAt := goodIn_r _ [5] (by decide +kernel) (by decide +kernel)
set_option maxRecDepth 20000 in
theorem gX7_with_X7_parcelAt : GoodIn wsX7_with (va_wsS RX7 236 yX7_parcelAt wsX7_parcelAt) := goodIn_app (goodIn_of _ (by decide +kernel)) ggX7_with_X7_parcelAt
set_option maxRecDepth 20000 in
theorem ggX7_with_X7_works : GoodIn wsX7_with wsX7_works := goodIn_r _ [9, 10, 11, 1, 12, 13, 14, 15, 16, 17, 18, 19, 4, 20, 21, 22, 23, 24, 25, 26, 27, 28, 29, 30, 31, 32, 33, 34, 35, 36, 37, 38, 39, 40, 41, 42, 43, 44, 45, 46, 47, 48, 49, 50, 51, 52, 53, 54, 55, 56, 57, 58, 59, 60, 61, 62, 63, 64, 65, 66, 67, 68, 69, 70, 71] (by decide +kernel) (by decide +kernel)
set_option maxRecDepth 20000 in
theorem gX7_with_X7_works : GoodIn wsX7_with (wsV RX7 232 RX7 yX7_works wsX7_works) := goodIn_app (goodIn_of _ (by decide +kernel)) ggX7_with_X7_works
theorem dX7_with_0 : decode cX7_with 0 = .ok (.iload_n 2, 1) := by decide +kernel
theorem dX7_with_1 : decode cX7_with 1 = .ok (.ifCond .ne 7, 3) := by decide +kernel
theorem dX7_with_4 : decode cX7_with 4 = .ok (.lload_n 3, 1) := by decide +kernel
theorem dX7_with_5 : decode cX7_with 5 = .ok (.goto 13, 3) := by decide +kernel
theorem dX7_with_8 : decode cX7_with 8 = .ok (.aload_n 0, 1) := by decide +kernel
theorem dX7_with_9 : decode cX7_with 9 = .ok (.getfield 7, 3) := by decide +kernel
theorem dX7_with_12 : decode cX7_with 12 = .ok (.iload_n 1, 1) := by decide +kernel
theorem dX7_with_13 : decode cX7_with 13 = .ok (.iconst 0, 1) := by decide +kernel
theorem dX7_with_14 : decode cX7_with 14 = .ok (.invokestatic 236, 3) := by decide +kernel
theorem dX7_with_17 : decode cX7_with 17 = .ok (.laload, 1) := by decide +kernel
theorem dX7_with_18 : decode cX7_with 18 = .ok (.lstore 5, 2) := by decide +kernel
theorem dX7_with_20 : decode cX7_with 20 = .ok (.iload_n 2, 1) := by decide +kernel
theorem dX7_with_21 : decode cX7_with 21 = .ok (.iconst 1, 1) := by decide +kernel
theorem dX7_with_22 : decode cX7_with 22 = .ok (.if_icmp .ne 7, 3) := by decide +kernel
theorem dX7_with_25 : decode cX7_with 25 = .ok (.lload_n 3, 1) := by decide +kernel
theorem dX7_with_26 : decode cX7_with 26 = .ok (.goto 13, 3) := by decide +kernel
theorem dX7_with_29 : decode cX7_with 29 = .ok (.aload_n 0, 1) := by decide +kernel
theorem dX7_with_30 : decode cX7_with 30 = .ok (.getfield 7, 3) := by decide +kernel
theorem dX7_with_33 : decode cX7_with 33 = .ok (.iload_n 1, 1) := by decide +kernel
theorem dX7_with_34 : decode cX7_with 34 = .ok (.iconst 1, 1) := by decide +kernel
theorem dX7_with_35 : decode cX7_with 35 = .ok (.invokestatic 236, 3) := by decide +kernel
theorem dX7_with_38 : decode cX7_with 38 = .ok (.laload, 1) := by decide +kernel
theorem dX7_with_39 : decode cX7_with 39 = .ok (.lstore 7, 2) := by decide +kernel
theorem dX7_with_41 : decode cX7_with 41 = .ok (.iload_n 2, 1) := by decide +kernel
theorem dX7_with_42 : decode cX7_with 42 = .ok (.iconst 2, 1) := by decide +kernel
theorem dX7_with_43 : decode cX7_with 43 = .ok (.if_icmp .ne 7, 3) := by decide +kernel
theorem dX7_with_46 : decode cX7_with 46 = .ok (.lload_n 3, 1) := by decide +kernel
theorem dX7_with_47 : decode cX7_with 47 = .ok (.goto 13, 3) := by decide +kernel
theorem dX7_with_50 : decode cX7_with 50 = .ok (.aload_n 0, 1) := by decide +kernel
theorem dX7_with_51 : decode cX7_with 51 = .ok (.getfield 7, 3) := by decide +kernel
theorem dX7_with_54 : decode cX7_with 54 = .ok (.iload_n 1, 1) := by decide +kernel
theorem dX7_with_55 : decode cX7_with 55 = .ok (.iconst 2, 1) := by decide +kernel
theorem dX7_with_56 : decode cX7_with 56 = .ok (.invokestatic 236, 3) := by decide +kernel
theorem dX7_with_59 : decode cX7_with 59 = .ok (.laload, 1) := by decide +kernel
theorem dX7_with_60 : decode cX7_with 60 = .ok (.lstore 9, 2) := by decide +kernel
theorem dX7_with_62 : decode cX7_with 62 = .ok (.iload_n 2, 1) := by decide +kernel
theorem dX7_with_63 : decode cX7_with 63 = .ok (.iconst 3, 1) := by decide +kernel
theorem dX7_with_64 : decode cX7_with 64 = .ok (.if_icmp .ne 7, 3) := by decide +kernel
theorem dX7_with_67 : decode cX7_with 67 = .ok (.lload_n 3, 1) := by decide +kernel
theorem dX7_with_68 : decode cX7_with 68 = .ok (.goto 13, 3) := by decide +kernel
theorem dX7_with_71 : decode cX7_with 71 = .ok (.aload_n 0, 1) := by decide +kernel
theorem dX7_with_72 : decode cX7_with 72 = .ok (.getfield 7, 3) := by decide +kernel
theorem dX7_with_75 : decode cX7_with 75 = .ok (.iload_n 1, 1) := by decide +kernel
theorem dX7_with_76 : decode cX7_with 76 = .ok (.iconst 3, 1) := by decide +kernel
theorem dX7_with_77 : decode cX7_with 77 = .ok (.invokestatic 236, 3) := by decide +kernel
theorem dX7_with_80 : decode cX7_with 80 = .ok (.laload, 1) := by decide +kernel
theorem dX7_with_81 : decode cX7_with 81 = .ok (.lstore 11, 2) := by decide +kernel
theorem dX7_with_83 : decode cX7_with 83 = .ok (.aload_n 0, 1) := by decide +kernel
theorem dX7_with_84 : decode cX7_with 84 = .ok (.lload 5, 2) := by decide +kernel
theorem dX7_with_86 : decode cX7_with 86 = .ok (.lload 7, 2) := by decide +kernel
theorem dX7_with_88 : decode cX7_with 88 = .ok (.lload 9, 2) := by decide +kernel
theorem dX7_with_90 : decode cX7_with 90 = .ok (.lload 11, 2) := by decide +kernel
theorem dX7_with_92 : decode cX7_with 92 = .ok (.aload_n 0, 1) := by decide +kernel
theorem dX7_with_93 : decode cX7_with 93 = .ok (.getfield 7, 3) := by decide +kernel
theorem dX7_with_96 : decode cX7_with 96 = .ok (.iload_n 1, 1) := by decide +kernel
theorem dX7_with_97 : decode cX7_with 97 = .ok (.iconst 4, 1) := by decide +kernel
theorem dX7_with_98 : decode cX7_with 98 = .ok (.invokestatic 236, 3) := by decide +kernel
theorem dX7_with_101 : decode cX7_with 101 = .ok (.laload, 1) := by decide +kernel
theorem dX7_with_102 : decode cX7_with 102 = .ok (.l2i, 1) := by decide +kernel
theorem dX7_with_103 : decode cX7_with 103 = .ok (.invokevirtual 232, 3) := by decide +kernel
theorem dX7_with_106 : decode cX7_with 106 = .ok (.lreturn, 1) := by decide +kernel
set_option maxRecDepth 20000 in
theorem ggX7_hasBands_X7_parcelAt : GoodIn wsX7_hasBands wsX7_parcelAt := goodIn_r _ [5] (by decide +kernel) (by decide +kernel)
set_option maxRecDepth 20000 in
theorem gX7_hasBands_X7_parcelAt : GoodIn wsX7_hasBands (va_wsS RX7 236 yX7_parcelAt wsX7_parcelAt) := goodIn_app (goodIn_of _ (by decide +kernel)) ggX7_hasBands_X7_parcelAt
set_option maxRecDepth 20000 in
theorem ggX7_hasBands_X7_bands : GoodIn wsX7_hasBands wsX7_bands := goodIn_r _ [9, 1, 10, 11, 12, 13, 14, 15, 16, 17, 18, 19, 20, 21, 22, 23, 24, 25, 26, 27, 28] (by decide +kernel) (by decide +kernel)
set_option maxRecDepth 20000 in
theorem gX7_hasBands_X7_bands : GoodIn wsX7_hasBands (wsV RX7 132 RX7 yX7_bands wsX7_bands) := goodIn_app (goodIn_of _ (by decide +kernel)) ggX7_hasBands_X7_bands
theorem dX7_hasBands_0 : decode cX7_hasBands 0 = .ok (.aload_n 0, 1) := by decide +kernel
theorem dX7_hasBands_1 : decode cX7_hasBands 1 = .ok (.aload_n 0, 1) := by decide +kernel
theorem dX7_hasBands_2 : decode cX7_hasBands 2 = .ok (.getfield 7, 3) := by decide +kernel
theorem dX7_hasBands_5 : decode cX7_hasBands 5 = .ok (.iload_n 1, 1) := by decide +kernel
theorem dX7_hasBands_6 : decode cX7_hasBands 6 = .ok (.iconst 4, 1) := by decide +kernel
theorem dX7_hasBands_7 : decode cX7_hasBands 7 = .ok (.invokestatic 236, 3) := by decide +kernel
theorem dX7_hasBands_10 : decode cX7_hasBands 10 = .ok (.laload, 1) := by decide +kernel
theorem dX7_hasBands_11 : decode cX7_hasBands 11 = .ok (.l2i, 1) := by decide +kernel
theorem dX7_hasBands_12 : decode cX7_hasBands 12 = .ok (.invokevirtual 132, 3) := by decide +kernel
theorem dX7_hasBands_15 : decode cX7_hasBands 15 = .ok (.ifCond .le 7, 3) := by decide +kernel
theorem dX7_hasBands_18 : decode cX7_hasBands 18 = .ok (.iconst 1, 1) := by decide +kernel
theorem dX7_hasBands_19 : decode cX7_hasBands 19 = .ok (.goto 4, 3) := by decide +kernel
theorem dX7_hasBands_22 : decode cX7_hasBands 22 = .ok (.iconst 0, 1) := by decide +kernel
theorem dX7_hasBands_23 : decode cX7_hasBands 23 = .ok (.ireturn, 1) := by decide +kernel
set_option maxRecDepth 20000 in
theorem ggX7_dispute_X7_isParcel : GoodIn wsX7_dispute wsX7_isParcel := goodIn_r _ [14, 6, 15, 16, 13, 17, 135, 136, 137, 138, 139, 140, 141, 142, 143, 144, 145, 146, 147, 148, 149, 150, 151, 152, 153] (by decide +kernel) (by decide +kernel)
set_option maxRecDepth 20000 in
theorem gX7_dispute_X7_isParcel : GoodIn wsX7_dispute (wsV RX7 246 RX7 yX7_isParcel wsX7_isParcel) := goodIn_app (goodIn_of _ (by decide +kernel)) ggX7_dispute_X7_isParcel
set_option maxRecDepth 20000 in
theorem ggX7_dispute_X7_in : GoodIn wsX7_dispute wsX7_in := goodIn_r _ [17] (by decide +kernel) (by decide +kernel)
set_option maxRecDepth 20000 in
theorem gX7_dispute_X7_in : GoodIn wsX7_dispute (va_wsS RX7 69 yX7_in wsX7_in) := goodIn_app (goodIn_of _ (by decide +kernel)) ggX7_dispute_X7_in
set_option maxRecDepth 20000 in
theorem ggX7_dispute_X7_openOf : GoodIn wsX7_dispute wsX7_openOf := goodIn_r _ [21, 22, 6, 23, 24, 13, 25, 135, 136, 137, 138, 139, 140, 141, 142, 143, 144, 145, 146, 147, 148, 149, 150, 151, 152, 153] (by decide +kernel) (by decide +kernel)
set_option maxRecDepth 20000 in
theorem gX7_dispute_X7_openOf : GoodIn wsX7_dispute (wsV RX7 243 RX7 yX7_openOf wsX7_openOf) := goodIn_app (goodIn_of _ (by decide +kernel)) ggX7_dispute_X7_openOf
set_option maxRecDepth 20000 in
theorem ggX7_dispute_X7_hasBands : GoodIn wsX7_dispute wsX7_hasBands := goodIn_r _ [29, 6, 30, 31, 13, 32, 33, 34, 35, 36, 135, 136, 137, 138, 139, 140, 141, 142, 143, 144, 145, 146, 147, 148, 149, 150, 151, 152, 153] (by decide +kernel) (by decide +kernel)
set_option maxRecDepth 20000 in
theorem gX7_dispute_X7_hasBands : GoodIn wsX7_dispute (wsV RX7 257 RX7 yX7_hasBands wsX7_hasBands) := goodIn_app (goodIn_of _ (by decide +kernel)) ggX7_dispute_X7_hasBands
set_option maxRecDepth 20000 in
theorem ggX7_dispute_X7_act : GoodIn wsX7_dispute wsX7_act := goodIn_r _ [40, 41, 42, 6, 135, 136, 137, 138, 139, 140, 141, 142, 143, 144, 145, 146, 147, 148, 149, 150, 151, 152, 153] (by decide +kernel) (by decide +kernel)
set_option maxRecDepth 20000 in
theorem gX7_dispute_X7_act : GoodIn wsX7_dispute (wsV RX7 62 RX7 yX7_act wsX7_act) := goodIn_app (goodIn_of _ (by decide +kernel)) ggX7_dispute_X7_act
set_option maxRecDepth 20000 in
theorem ggX7_dispute_X7_readsRules : GoodIn wsX7_dispute wsX7_readsRules := goodIn_r _ [46, 6, 47, 48, 49, 50, 51, 52, 13, 53, 54, 55, 56, 57, 58, 59, 60, 61, 62, 63, 64, 65, 66, 67, 68, 69, 70, 71, 72, 73, 74, 75, 76, 77, 15, 16, 17, 78, 79, 80, 81, 82, 83, 84, 85, 86, 87, 88, 89, 90, 91, 92, 93, 94, 135, 136, 137, 138, 139, 140, 141, 142, 143, 144, 145, 146, 147, 148, 149, 150, 151, 152, 153] (by decide +kernel) (by decide +kernel)
set_option maxRecDepth 20000 in
theorem gX7_dispute_X7_readsRules : GoodIn wsX7_dispute (wsV RX7 229 RX7 yX7_readsRules wsX7_readsRules) := goodIn_app (goodIn_of _ (by decide +kernel)) ggX7_dispute_X7_readsRules
set_option maxRecDepth 20000 in
theorem ggX7_dispute_X7_noteAt : GoodIn wsX7_dispute wsX7_noteAt := goodIn_r _ [25] (by decide +kernel) (by decide +kernel)
set_option maxRecDepth 20000 in
theorem gX7_dispute_X7_noteAt : GoodIn wsX7_dispute (va_wsS RX7 240 yX7_noteAt wsX7_noteAt) := goodIn_app (goodIn_of _ (by decide +kernel)) ggX7_dispute_X7_noteAt
set_option maxRecDepth 20000 in
theorem ggX7_dispute_X7_with : GoodIn wsX7_dispute wsX7_with := goodIn_r _ [98, 6, 30, 31, 13, 32, 99, 100, 101, 102, 9, 103, 104, 1, 105, 59, 60, 106, 107, 108, 109, 110, 111, 112, 113, 114, 115, 116, 117, 7, 33, 34, 35, 36, 118, 119, 120, 121, 122, 123, 124, 125, 126, 127, 128, 129, 130, 55, 82, 131, 132, 133, 134, 135, 136, 137, 138, 139, 140, 141, 142, 143, 144, 145, 146, 147, 148, 149, 150, 151, 152, 153] (by decide +kernel) (by decide +kernel)
set_option maxRecDepth 20000 in
theorem gX7_dispute_X7_with : GoodIn wsX7_dispute (wsV RX7 260 RX7 yX7_with wsX7_with) := goodIn_app (goodIn_of _ (by decide +kernel)) ggX7_dispute_X7_with
theorem dX7_dispute_0 : decode cX7_dispute 0 = .ok (.aload_n 0, 1) := by decide +kernel
theorem dX7_dispute_1 : decode cX7_dispute 1 = .ok (.iload_n 1, 1) := by decide +kernel
theorem dX7_dispute_2 : decode cX7_dispute 2 = .ok (.invokevirtual 246, 3) := by decide +kernel
theorem dX7_dispute_5 : decode cX7_dispute 5 = .ok (.ifCond .eq 37, 3) := by decide +kernel
theorem dX7_dispute_8 : decode cX7_dispute 8 = .ok (.iload_n 2, 1) := by decide +kernel
theorem dX7_dispute_9 : decode cX7_dispute 9 = .ok (.i2l, 1) := by decide +kernel
theorem dX7_dispute_10 : decode cX7_dispute 10 = .ok (.lconst 0, 1) := by decide +kernel
theorem dX7_dispute_11 : decode cX7_dispute 11 = .ok (.ldc2_w 98, 3) := by decide +kernel
theorem dX7_dispute_14 : decode cX7_dispute 14 = .ok (.invokestatic 69, 3) := by decide +kernel
theorem dX7_dispute_17 : decode cX7_dispute 17 = .ok (.ifCond .eq 25, 3) := by decide +kernel
theorem dX7_dispute_20 : decode cX7_dispute 20 = .ok (.iload_n 3, 1) := by decide +kernel
theorem dX7_dispute_21 : decode cX7_dispute 21 = .ok (.i2l, 1) := by decide +kernel
theorem dX7_dispute_22 : decode cX7_dispute 22 = .ok (.lconst 1, 1) := by decide +kernel
theorem dX7_dispute_23 : decode cX7_dispute 23 = .ok (.iload_n 2, 1) := by decide +kernel
theorem dX7_dispute_24 : decode cX7_dispute 24 = .ok (.ifCond .ne 9, 3) := by decide +kernel
theorem dX7_dispute_27 : decode cX7_dispute 27 = .ok (.ldc2_w 92, 3) := by decide +kernel
theorem dX7_dispute_30 : decode cX7_dispute 30 = .ok (.goto 6, 3) := by decide +kernel
theorem dX7_dispute_33 : decode cX7_dispute 33 = .ok (.ldc2_w 222, 3) := by decide +kernel
theorem dX7_dispute_36 : decode cX7_dispute 36 = .ok (.invokestatic 69, 3) := by decide +kernel
theorem dX7_dispute_39 : decode cX7_dispute 39 = .ok (.ifCond .ne 6, 3) := by decide +kernel
theorem dX7_dispute_42 : decode cX7_dispute 42 = .ok (.ldc 89, 2) := by decide +kernel
theorem dX7_dispute_44 : decode cX7_dispute 44 = .ok (.ireturn, 1) := by decide +kernel
theorem dX7_dispute_45 : decode cX7_dispute 45 = .ok (.aload_n 0, 1) := by decide +kernel
theorem dX7_dispute_46 : decode cX7_dispute 46 = .ok (.iload_n 1, 1) := by decide +kernel
theorem dX7_dispute_47 : decode cX7_dispute 47 = .ok (.invokevirtual 243, 3) := by decide +kernel
theorem dX7_dispute_50 : decode cX7_dispute 50 = .ok (.ifCond .ge 11, 3) := by decide +kernel
theorem dX7_dispute_53 : decode cX7_dispute 53 = .ok (.aload_n 0, 1) := by decide +kernel
theorem dX7_dispute_54 : decode cX7_dispute 54 = .ok (.iload_n 1, 1) := by decide +kernel
theorem dX7_dispute_55 : decode cX7_dispute 55 = .ok (.invokevirtual 257, 3) := by decide +kernel
theorem dX7_dispute_58 : decode cX7_dispute 58 = .ok (.ifCond .ne 6, 3) := by decide +kernel
theorem dX7_dispute_61 : decode cX7_dispute 61 = .ok (.ldc 108, 2) := by decide +kernel
theorem dX7_dispute_63 : decode cX7_dispute 63 = .ok (.ireturn, 1) := by decide +kernel
theorem dX7_dispute_64 : decode cX7_dispute 64 = .ok (.aload_n 0, 1) := by decide +kernel
theorem dX7_dispute_65 : decode cX7_dispute 65 = .ok (.getfield 7, 3) := by decide +kernel
theorem dX7_dispute_68 : decode cX7_dispute 68 = .ok (.bipush 20, 2) := by decide +kernel
theorem dX7_dispute_70 : decode cX7_dispute 70 = .ok (.laload, 1) := by decide +kernel
theorem dX7_dispute_71 : decode cX7_dispute 71 = .ok (.ldc2_w 67, 3) := by decide +kernel
theorem dX7_dispute_74 : decode cX7_dispute 74 = .ok (.lcmp, 1) := by decide +kernel
theorem dX7_dispute_75 : decode cX7_dispute 75 = .ok (.ifCond .ne 6, 3) := by decide +kernel
theorem dX7_dispute_78 : decode cX7_dispute 78 = .ok (.ldc 139, 2) := by decide +kernel
theorem dX7_dispute_80 : decode cX7_dispute 80 = .ok (.ireturn, 1) := by decide +kernel
theorem dX7_dispute_81 : decode cX7_dispute 81 = .ok (.aload_n 0, 1) := by decide +kernel
theorem dX7_dispute_82 : decode cX7_dispute 82 = .ok (.invokevirtual 62, 3) := by decide +kernel
theorem dX7_dispute_85 : decode cX7_dispute 85 = .ok (.aload_n 0, 1) := by decide +kernel
theorem dX7_dispute_86 : decode cX7_dispute 86 = .ok (.invokevirtual 229, 3) := by decide +kernel
theorem dX7_dispute_89 : decode cX7_dispute 89 = .ok (.aload_n 0, 1) := by decide +kernel
theorem dX7_dispute_90 : decode cX7_dispute 90 = .ok (.getfield 7, 3) := by decide +kernel
theorem dX7_dispute_93 : decode cX7_dispute 93 = .ok (.bipush 20, 2) := by decide +kernel
theorem dX7_dispute_95 : decode cX7_dispute 95 = .ok (.laload, 1) := by decide +kernel
theorem dX7_dispute_96 : decode cX7_dispute 96 = .ok (.l2i, 1) := by decide +kernel
theorem dX7_dispute_97 : decode cX7_dispute 97 = .ok (.istore 4, 2) := by decide +kernel
theorem dX7_dispute_99 : decode cX7_dispute 99 = .ok (.aload_n 0, 1) := by decide +kernel
theorem dX7_dispute_100 : decode cX7_dispute 100 = .ok (.getfield 7, 3) := by decide +kernel
theorem dX7_dispute_103 : decode cX7_dispute 103 = .ok (.iload 4, 2) := by decide +kernel
theorem dX7_dispute_105 : decode cX7_dispute 105 = .ok (.iconst 0, 1) := by decide +kernel
theorem dX7_dispute_106 : decode cX7_dispute 106 = .ok (.invokestatic 240, 3) := by decide +kernel
theorem dX7_dispute_109 : decode cX7_dispute 109 = .ok (.iload_n 1, 1) := by decide +kernel
theorem dX7_dispute_110 : decode cX7_dispute 110 = .ok (.i2l, 1) := by decide +kernel
theorem dX7_dispute_111 : decode cX7_dispute 111 = .ok (.lastore, 1) := by decide +kernel
theorem dX7_dispute_112 : decode cX7_dispute 112 = .ok (.aload_n 0, 1) := by decide +kernel
theorem dX7_dispute_113 : decode cX7_dispute 113 = .ok (.getfield 7, 3) := by decide +kernel
theorem dX7_dispute_116 : decode cX7_dispute 116 = .ok (.iload 4, 2) := by decide +kernel
theorem dX7_dispute_118 : decode cX7_dispute 118 = .ok (.iconst 1, 1) := by decide +kernel
theorem dX7_dispute_119 : decode cX7_dispute 119 = .ok (.invokestatic 240, 3) := by decide +kernel
theorem dX7_dispute_122 : decode cX7_dispute 122 = .ok (.iload_n 2, 1) := by decide +kernel
theorem dX7_dispute_123 : decode cX7_dispute 123 = .ok (.i2l, 1) := by decide +kernel
theorem dX7_dispute_124 : decode cX7_dispute 124 = .ok (.lastore, 1) := by decide +kernel
theorem dX7_dispute_125 : decode cX7_dispute 125 = .ok (.aload_n 0, 1) := by decide +kernel
theorem dX7_dispute_126 : decode cX7_dispute 126 = .ok (.getfield 7, 3) := by decide +kernel
theorem dX7_dispute_129 : decode cX7_dispute 129 = .ok (.iload 4, 2) := by decide +kernel
theorem dX7_dispute_131 : decode cX7_dispute 131 = .ok (.iconst 2, 1) := by decide +kernel
theorem dX7_dispute_132 : decode cX7_dispute 132 = .ok (.invokestatic 240, 3) := by decide +kernel
theorem dX7_dispute_135 : decode cX7_dispute 135 = .ok (.iload_n 3, 1) := by decide +kernel
theorem dX7_dispute_136 : decode cX7_dispute 136 = .ok (.i2l, 1) := by decide +kernel
theorem dX7_dispute_137 : decode cX7_dispute 137 = .ok (.lastore, 1) := by decide +kernel
theorem dX7_dispute_138 : decode cX7_dispute 138 = .ok (.aload_n 0, 1) := by decide +kernel
theorem dX7_dispute_139 : decode cX7_dispute 139 = .ok (.getfield 7, 3) := by decide +kernel
theorem dX7_dispute_142 : decode cX7_dispute 142 = .ok (.iload 4, 2) := by decide +kernel
theorem dX7_dispute_144 : decode cX7_dispute 144 = .ok (.iconst 3, 1) := by decide +kernel
theorem dX7_dispute_145 : decode cX7_dispute 145 = .ok (.invokestatic 240, 3) := by decide +kernel
theorem dX7_dispute_148 : decode cX7_dispute 148 = .ok (.aload_n 0, 1) := by decide +kernel
theorem dX7_dispute_149 : decode cX7_dispute 149 = .ok (.iload_n 1, 1) := by decide +kernel
theorem dX7_dispute_150 : decode cX7_dispute 150 = .ok (.iload_n 2, 1) := by decide +kernel
theorem dX7_dispute_151 : decode cX7_dispute 151 = .ok (.iload_n 3, 1) := by decide +kernel
theorem dX7_dispute_152 : decode cX7_dispute 152 = .ok (.i2l, 1) := by decide +kernel
theorem dX7_dispute_153 : decode cX7_dispute 153 = .ok (.invokevirtual 260, 3) := by decide +kernel
theorem dX7_dispute_156 : decode cX7_dispute 156 = .ok (.lastore, 1) := by decide +kernel
theorem dX7_dispute_157 : decode cX7_dispute 157 = .ok (.aload_n 0, 1) := by decide +kernel
theorem dX7_dispute_158 : decode cX7_dispute 158 = .ok (.getfield 7, 3) := by decide +kernel
theorem dX7_dispute_161 : decode cX7_dispute 161 = .ok (.iload 4, 2) := by decide +kernel
theorem dX7_dispute_163 : decode cX7_dispute 163 = .ok (.iconst 4, 1) := by decide +kernel
theorem dX7_dispute_164 : decode cX7_dispute 164 = .ok (.invokestatic 240, 3) := by decide +kernel
theorem dX7_dispute_167 : decode cX7_dispute 167 = .ok (.lconst 0, 1) := by decide +kernel
theorem dX7_dispute_168 : decode cX7_dispute 168 = .ok (.lastore, 1) := by decide +kernel
theorem dX7_dispute_169 : decode cX7_dispute 169 = .ok (.aload_n 0, 1) := by decide +kernel
theorem dX7_dispute_170 : decode cX7_dispute 170 = .ok (.getfield 7, 3) := by decide +kernel
theorem dX7_dispute_173 : decode cX7_dispute 173 = .ok (.iload 4, 2) := by decide +kernel
theorem dX7_dispute_175 : decode cX7_dispute 175 = .ok (.iconst 5, 1) := by decide +kernel
theorem dX7_dispute_176 : decode cX7_dispute 176 = .ok (.invokestatic 240, 3) := by decide +kernel
theorem dX7_dispute_179 : decode cX7_dispute 179 = .ok (.lconst 0, 1) := by decide +kernel
theorem dX7_dispute_180 : decode cX7_dispute 180 = .ok (.lastore, 1) := by decide +kernel
theorem dX7_dispute_181 : decode cX7_dispute 181 = .ok (.aload_n 0, 1) := by decide +kernel
theorem dX7_dispute_182 : decode cX7_dispute 182 = .ok (.getfield 7, 3) := by decide +kernel
theorem dX7_dispute_185 : decode cX7_dispute 185 = .ok (.iload 4, 2) := by decide +kernel
theorem dX7_dispute_187 : decode cX7_dispute 187 = .ok (.bipush 6, 2) := by decide +kernel
theorem dX7_dispute_189 : decode cX7_dispute 189 = .ok (.invokestatic 240, 3) := by decide +kernel
theorem dX7_dispute_192 : decode cX7_dispute 192 = .ok (.aload_n 0, 1) := by decide +kernel
theorem dX7_dispute_193 : decode cX7_dispute 193 = .ok (.getfield 38, 3) := by decide +kernel
theorem dX7_dispute_196 : decode cX7_dispute 196 = .ok (.iconst 5, 1) := by decide +kernel
theorem dX7_dispute_197 : decode cX7_dispute 197 = .ok (.laload, 1) := by decide +kernel
theorem dX7_dispute_198 : decode cX7_dispute 198 = .ok (.lastore, 1) := by decide +kernel
theorem dX7_dispute_199 : decode cX7_dispute 199 = .ok (.aload_n 0, 1) := by decide +kernel
theorem dX7_dispute_200 : decode cX7_dispute 200 = .ok (.getfield 7, 3) := by decide +kernel
theorem dX7_dispute_203 : decode cX7_dispute 203 = .ok (.iload 4, 2) := by decide +kernel
theorem dX7_dispute_205 : decode cX7_dispute 205 = .ok (.bipush 7, 2) := by decide +kernel
theorem dX7_dispute_207 : decode cX7_dispute 207 = .ok (.invokestatic 240, 3) := by decide +kernel
theorem dX7_dispute_210 : decode cX7_dispute 210 = .ok (.aload_n 0, 1) := by decide +kernel
theorem dX7_dispute_211 : decode cX7_dispute 211 = .ok (.getfield 38, 3) := by decide +kernel
theorem dX7_dispute_214 : decode cX7_dispute 214 = .ok (.bipush 6, 2) := by decide +kernel
theorem dX7_dispute_216 : decode cX7_dispute 216 = .ok (.laload, 1) := by decide +kernel
theorem dX7_dispute_217 : decode cX7_dispute 217 = .ok (.lastore, 1) := by decide +kernel
theorem dX7_dispute_218 : decode cX7_dispute 218 = .ok (.aload_n 0, 1) := by decide +kernel
theorem dX7_dispute_219 : decode cX7_dispute 219 = .ok (.getfield 7, 3) := by decide +kernel
theorem dX7_dispute_222 : decode cX7_dispute 222 = .ok (.iload 4, 2) := by decide +kernel
theorem dX7_dispute_224 : decode cX7_dispute 224 = .ok (.bipush 8, 2) := by decide +kernel
theorem dX7_dispute_226 : decode cX7_dispute 226 = .ok (.invokestatic 240, 3) := by decide +kernel
theorem dX7_dispute_229 : decode cX7_dispute 229 = .ok (.aload_n 0, 1) := by decide +kernel
theorem dX7_dispute_230 : decode cX7_dispute 230 = .ok (.getfield 38, 3) := by decide +kernel
theorem dX7_dispute_233 : decode cX7_dispute 233 = .ok (.bipush 7, 2) := by decide +kernel
theorem dX7_dispute_235 : decode cX7_dispute 235 = .ok (.laload, 1) := by decide +kernel
theorem dX7_dispute_236 : decode cX7_dispute 236 = .ok (.lastore, 1) := by decide +kernel
theorem dX7_dispute_237 : decode cX7_dispute 237 = .ok (.iconst 0, 1) := by decide +kernel
theorem dX7_dispute_238 : decode cX7_dispute 238 = .ok (.istore 5, 2) := by decide +kernel
theorem dX7_dispute_240 : decode cX7_dispute 240 = .ok (.iload 5, 2) := by decide +kernel
theorem dX7_dispute_242 : decode cX7_dispute 242 = .ok (.iconst 3, 1) := by decide +kernel
theorem dX7_dispute_243 : decode cX7_dispute 243 = .ok (.if_icmp .ge 34, 3) := by decide +kernel
theorem dX7_dispute_246 : decode cX7_dispute 246 = .ok (.aload_n 0, 1) := by decide +kernel
theorem dX7_dispute_247 : decode cX7_dispute 247 = .ok (.getfield 7, 3) := by decide +kernel
theorem dX7_dispute_250 : decode cX7_dispute 250 = .ok (.iload 4, 2) := by decide +kernel
theorem dX7_dispute_252 : decode cX7_dispute 252 = .ok (.bipush 9, 2) := by decide +kernel
theorem dX7_dispute_254 : decode cX7_dispute 254 = .ok (.iload 5, 2) := by decide +kernel
theorem dX7_dispute_256 : decode cX7_dispute 256 = .ok (.iadd, 1) := by decide +kernel
theorem dX7_dispute_257 : decode cX7_dispute 257 = .ok (.invokestatic 240, 3) := by decide +kernel
theorem dX7_dispute_260 : decode cX7_dispute 260 = .ok (.aload_n 0, 1) := by decide +kernel
theorem dX7_dispute_261 : decode cX7_dispute 261 = .ok (.getfield 38, 3) := by decide +kernel
theorem dX7_dispute_264 : decode cX7_dispute 264 = .ok (.bipush 9, 2) := by decide +kernel
theorem dX7_dispute_266 : decode cX7_dispute 266 = .ok (.iload 5, 2) := by decide +kernel
theorem dX7_dispute_268 : decode cX7_dispute 268 = .ok (.iadd, 1) := by decide +kernel
theorem dX7_dispute_269 : decode cX7_dispute 269 = .ok (.laload, 1) := by decide +kernel
theorem dX7_dispute_270 : decode cX7_dispute 270 = .ok (.lastore, 1) := by decide +kernel
theorem dX7_dispute_271 : decode cX7_dispute 271 = .ok (.iinc 5 1, 3) := by decide +kernel
theorem dX7_dispute_274 : decode cX7_dispute 274 = .ok (.goto (-34), 3) := by decide +kernel
theorem dX7_dispute_277 : decode cX7_dispute 277 = .ok (.aload_n 0, 1) := by decide +kernel
theorem dX7_dispute_278 : decode cX7_dispute 278 = .ok (.getfield 7, 3) := by decide +kernel
theorem dX7_dispute_281 : decode cX7_dispute 281 = .ok (.bipush 20, 2) := by decide +kernel
theorem dX7_dispute_283 : decode cX7_dispute 283 = .ok (.dup2, 1) := by decide +kernel
theorem dX7_dispute_284 : decode cX7_dispute 284 = .ok (.laload, 1) := by decide +kernel
theorem dX7_dispute_285 : decode cX7_dispute 285 = .ok (.lconst 1, 1) := by decide +kernel
theorem dX7_dispute_286 : decode cX7_dispute 286 = .ok (.ladd, 1) := by decide +kernel
theorem dX7_dispute_287 : decode cX7_dispute 287 = .ok (.lastore, 1) := by decide +kernel
theorem dX7_dispute_288 : decode cX7_dispute 288 = .ok (.iload 4, 2) := by decide +kernel
theorem dX7_dispute_290 : decode cX7_dispute 290 = .ok (.ireturn, 1) := by decide +kernel
set_option maxRecDepth 20000 in
theorem ggX7_settle_X7_in : GoodIn wsX7_settle wsX7_in := goodIn_r _ [8] (by decide +kernel) (by decide +kernel)
set_option maxRecDepth 20000 in
theorem gX7_settle_X7_in : GoodIn wsX7_settle (va_wsS RX7 69 yX7_in wsX7_in) := goodIn_app (goodIn_of _ (by decide +kernel)) ggX7_settle_X7_in
set_option maxRecDepth 20000 in
theorem ggX7_settle_X7_noteAt : GoodIn wsX7_settle wsX7_noteAt := goodIn_r _ [11] (by decide +kernel) (by decide +kernel)
set_option maxRecDepth 20000 in
theorem gX7_settle_X7_noteAt : GoodIn wsX7_settle (va_wsS RX7 240 yX7_noteAt wsX7_noteAt) := goodIn_app (goodIn_of _ (by decide +kernel)) ggX7_settle_X7_noteAt
set_option maxRecDepth 20000 in
theorem ggX7_settle_X7_act : GoodIn wsX7_settle wsX7_act := goodIn_r _ [15, 16, 17, 1, 21, 22, 23, 24, 25, 26, 27, 28, 29, 30, 31, 32, 33, 34, 35, 36, 37, 38, 39] (by decide +kernel) (by decide +kernel)
set_option maxRecDepth 20000 in
theorem gX7_settle_X7_act : GoodIn wsX7_settle (wsV RX7 62 RX7 yX7_act wsX7_act) := goodIn_app (goodIn_of _ (by decide +kernel)) ggX7_settle_X7_act
set_option maxRecDepth 20000 in
theorem ggX7_settle_X7_parcelAt : GoodIn wsX7_settle wsX7_parcelAt := goodIn_r _ [20] (by decide +kernel) (by decide +kernel)
set_option maxRecDepth 20000 in
theorem gX7_settle_X7_parcelAt : GoodIn wsX7_settle (va_wsS RX7 236 yX7_parcelAt wsX7_parcelAt) := goodIn_app (goodIn_of _ (by decide +kernel)) ggX7_settle_X7_parcelAt
theorem dX7_settle_0 : decode cX7_settle 0 = .ok (.iload_n 1, 1) := by decide +kernel
theorem dX7_settle_1 : decode cX7_settle 1 = .ok (.i2l, 1) := by decide +kernel
theorem dX7_settle_2 : decode cX7_settle 2 = .ok (.lconst 0, 1) := by decide +kernel
theorem dX7_settle_3 : decode cX7_settle 3 = .ok (.aload_n 0, 1) := by decide +kernel
theorem dX7_settle_4 : decode cX7_settle 4 = .ok (.getfield 7, 3) := by decide +kernel
theorem dX7_settle_7 : decode cX7_settle 7 = .ok (.bipush 20, 2) := by decide +kernel
theorem dX7_settle_9 : decode cX7_settle 9 = .ok (.laload, 1) := by decide +kernel
theorem dX7_settle_10 : decode cX7_settle 10 = .ok (.lconst 1, 1) := by decide +kernel
theorem dX7_settle_11 : decode cX7_settle 11 = .ok (.lsub, 1) := by decide +kernel
theorem dX7_settle_12 : decode cX7_settle 12 = .ok (.invokestatic 69, 3) := by decide +kernel
theorem dX7_settle_15 : decode cX7_settle 15 = .ok (.ifCond .ne 6, 3) := by decide +kernel
theorem dX7_settle_18 : decode cX7_settle 18 = .ok (.ldc 89, 2) := by decide +kernel
theorem dX7_settle_20 : decode cX7_settle 20 = .ok (.ireturn, 1) := by decide +kernel
theorem dX7_settle_21 : decode cX7_settle 21 = .ok (.aload_n 0, 1) := by decide +kernel
theorem dX7_settle_22 : decode cX7_settle 22 = .ok (.getfield 7, 3) := by decide +kernel
theorem dX7_settle_25 : decode cX7_settle 25 = .ok (.iload_n 1, 1) := by decide +kernel
theorem dX7_settle_26 : decode cX7_settle 26 = .ok (.iconst 4, 1) := by decide +kernel
theorem dX7_settle_27 : decode cX7_settle 27 = .ok (.invokestatic 240, 3) := by decide +kernel
theorem dX7_settle_30 : decode cX7_settle 30 = .ok (.laload, 1) := by decide +kernel
theorem dX7_settle_31 : decode cX7_settle 31 = .ok (.lconst 0, 1) := by decide +kernel
theorem dX7_settle_32 : decode cX7_settle 32 = .ok (.lcmp, 1) := by decide +kernel
theorem dX7_settle_33 : decode cX7_settle 33 = .ok (.ifCond .eq 6, 3) := by decide +kernel
theorem dX7_settle_36 : decode cX7_settle 36 = .ok (.ldc 108, 2) := by decide +kernel
theorem dX7_settle_38 : decode cX7_settle 38 = .ok (.ireturn, 1) := by decide +kernel
theorem dX7_settle_39 : decode cX7_settle 39 = .ok (.aload_n 0, 1) := by decide +kernel
theorem dX7_settle_40 : decode cX7_settle 40 = .ok (.invokevirtual 62, 3) := by decide +kernel
theorem dX7_settle_43 : decode cX7_settle 43 = .ok (.aload_n 0, 1) := by decide +kernel
